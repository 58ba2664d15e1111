section
theorem mz_X11_air {v0 : Nat} {v1 : Int32} {v2 : Int32} {v3 : Int32} {Q : Int32 → HS → Prop} {S : HS} (hI : IV S) (o_v0 : ob S v0 11)  (hq : ∀ (r : Int32) (T : HS), IV T → Gr S T → FRI [(11, 0), (11, 1), (11, 2)] [] S T → K2 S T → (NFq 11 2 c11 v0 T) → (((K7 S T ∧ K8 S T) ∧ (K9 false LA S T ∧ K9 true LB S T)) ∧ (KJ LWJ S T ∧ K9 false LWL S T)) → Q r T) : P_X11_air v0 v1 v2 v3 Q S := cm_X11_air (cm_X11_air (Q3 := fun r T => (IV T ∧ Gr S T ∧ (FRI [(11, 0), (11, 1), (11, 2)] [] S T) ∧ K2 S T ∧ ((NFq 11 2 c11 v0 T))) ∧ ((K7 S T ∧ K8 S T) ∧ (K9 false LA S T ∧ K9 true LB S T)) ∧ (KJ LWJ S T ∧ K9 false LWL S T)) (cm_X11_air (Q3 := fun r T => (IV T ∧ Gr S T ∧ (FRI [(11, 0), (11, 1), (11, 2)] [] S T) ∧ K2 S T ∧ ((NFq 11 2 c11 v0 T))) ∧ (K7 S T ∧ K8 S T) ∧ (K9 false LA S T ∧ K9 true LB S T)) (cm_X11_air (Q3 := fun r T => (IV T ∧ Gr S T ∧ (FRI [(11, 0), (11, 1), (11, 2)] [] S T) ∧ K2 S T ∧ ((NFq 11 2 c11 v0 T))) ∧ K7 S T ∧ K8 S T) (kw_X11_air (mn_X11_air (Q := fun r T => IV T ∧ Gr S T ∧ (FRI [(11, 0), (11, 1), (11, 2)] [] S T) ∧ K2 S T ∧ ((NFq 11 2 c11 v0 T))) hI o_v0 (fun r T h0 h1 h2 h3 h4 => ⟨h0, h1, h2, h3, h4⟩))) (kx_X11_air (mn_X11_air (Q := fun r T => IV T ∧ Gr S T ∧ (FRI [(11, 0), (11, 1), (11, 2)] [] S T) ∧ K2 S T ∧ ((NFq 11 2 c11 v0 T))) hI o_v0 (fun r T h0 h1 h2 h3 h4 => ⟨h0, h1, h2, h3, h4⟩))) (fun r T a b => ⟨a.1, a.2, b.2⟩)) (cm_X11_air (Q3 := fun r T => (IV T ∧ Gr S T ∧ (FRI [(11, 0), (11, 1), (11, 2)] [] S T) ∧ K2 S T ∧ ((NFq 11 2 c11 v0 T))) ∧ (K9 false LA S T ∧ K9 true LB S T)) (ky_X11_air (b := false) (L := LA) (by decide) (by decide) (fun _ => rfl) (mn_X11_air (Q := fun r T => IV T ∧ Gr S T ∧ (FRI [(11, 0), (11, 1), (11, 2)] [] S T) ∧ K2 S T ∧ ((NFq 11 2 c11 v0 T))) hI o_v0 (fun r T h0 h1 h2 h3 h4 => ⟨h0, h1, h2, h3, h4⟩))) (ky_X11_air (b := true) (L := LB) (by decide) (by decide) (fun z => z.elim) (mn_X11_air (Q := fun r T => IV T ∧ Gr S T ∧ (FRI [(11, 0), (11, 1), (11, 2)] [] S T) ∧ K2 S T ∧ ((NFq 11 2 c11 v0 T))) hI o_v0 (fun r T h0 h1 h2 h3 h4 => ⟨h0, h1, h2, h3, h4⟩))) (fun r T a b => ⟨a.1, a.2, b.2⟩)) (fun r T a b => ⟨a.1, a.2, b.2⟩)) (cm_X11_air (Q3 := fun r T => (IV T ∧ Gr S T ∧ (FRI [(11, 0), (11, 1), (11, 2)] [] S T) ∧ K2 S T ∧ ((NFq 11 2 c11 v0 T))) ∧ (KJ LWJ S T ∧ K9 false LWL S T)) (kj_X11_air (L := LWJ) (by decide) (by decide) (mn_X11_air (Q := fun r T => IV T ∧ Gr S T ∧ (FRI [(11, 0), (11, 1), (11, 2)] [] S T) ∧ K2 S T ∧ ((NFq 11 2 c11 v0 T))) hI o_v0 (fun r T h0 h1 h2 h3 h4 => ⟨h0, h1, h2, h3, h4⟩))) (ky_X11_air (b := false) (L := LWL) (by decide) (by decide) (fun _ => rfl) (mn_X11_air (Q := fun r T => IV T ∧ Gr S T ∧ (FRI [(11, 0), (11, 1), (11, 2)] [] S T) ∧ K2 S T ∧ ((NFq 11 2 c11 v0 T))) hI o_v0 (fun r T h0 h1 h2 h3 h4 => ⟨h0, h1, h2, h3, h4⟩))) (fun r T a b => ⟨a.1, a.2, b.2⟩)) (fun r T a b => ⟨a.1, a.2, b.2⟩)) (mn_X11_air (Q := fun r T => IV T ∧ Gr S T ∧ (FRI [(11, 0), (11, 1), (11, 2)] [] S T) ∧ K2 S T ∧ ((NFq 11 2 c11 v0 T))) hI o_v0 (fun r T h0 h1 h2 h3 h4 => ⟨h0, h1, h2, h3, h4⟩)) (fun r T h _ => hq r T h.1.1 h.1.2.1 h.1.2.2.1 h.1.2.2.2.1 h.1.2.2.2.2 h.2)
theorem mt_X11_back {v0 : Nat} {v1 : Int32} {Q : Int32 → HS → Prop} {S : HS} (hI : IV S) (o_v0 : ob S v0 11) {A : AS} {G : GC} (hm : (fR S v0 3 = none ∧ A = A00) ∨ ∃ rd, WRm v0 rd A G S) (ab : ABd A) (gb : GBd A G) {D : DY} (md : MDd v0 D S) (db : DBd A D) (hq : ∀ (r : Int32) (T : HS), IV T → Gr S T → FRI [(11, 0), (11, 1), (11, 2), (11, 24)] [] S T → bl r → K2 S T → (NFq 11 2 c11 v0 T) → ((((K7 S T ∧ K8 S T) ∧ K9 true LB S T) ∧ (KJ LWJ S T ∧ K9 false LWL S T)) ∧ ans (¬ v1 < 0 ∧ v1 < nI (dK D)) r ∧ MDd v0 (bkF D v1) T) → Q r T) : P_X11_back v0 v1 Q S := cm_X11_back (cm_X11_back (Q3 := fun r T => (IV T ∧ Gr S T ∧ (FRI [(11, 0), (11, 1), (11, 2), (11, 24)] [] S T) ∧ bl r ∧ K2 S T ∧ ((NFq 11 2 c11 v0 T))) ∧ (((K7 S T ∧ K8 S T) ∧ K9 true LB S T) ∧ (KJ LWJ S T ∧ K9 false LWL S T)) ∧ ans (¬ v1 < 0 ∧ v1 < nI (dK D)) r ∧ MDd v0 (bkF D v1) T) (cm_X11_back (Q3 := fun r T => (IV T ∧ Gr S T ∧ (FRI [(11, 0), (11, 1), (11, 2), (11, 24)] [] S T) ∧ bl r ∧ K2 S T ∧ ((NFq 11 2 c11 v0 T))) ∧ ((K7 S T ∧ K8 S T) ∧ K9 true LB S T) ∧ (KJ LWJ S T ∧ K9 false LWL S T)) (cm_X11_back (Q3 := fun r T => (IV T ∧ Gr S T ∧ (FRI [(11, 0), (11, 1), (11, 2), (11, 24)] [] S T) ∧ bl r ∧ K2 S T ∧ ((NFq 11 2 c11 v0 T))) ∧ (K7 S T ∧ K8 S T) ∧ K9 true LB S T) (cm_X11_back (Q3 := fun r T => (IV T ∧ Gr S T ∧ (FRI [(11, 0), (11, 1), (11, 2), (11, 24)] [] S T) ∧ bl r ∧ K2 S T ∧ ((NFq 11 2 c11 v0 T))) ∧ K7 S T ∧ K8 S T) (kw_X11_back (mn_X11_back (Q := fun r T => IV T ∧ Gr S T ∧ (FRI [(11, 0), (11, 1), (11, 2), (11, 24)] [] S T) ∧ bl r ∧ K2 S T ∧ ((NFq 11 2 c11 v0 T))) hI o_v0 (fun r T h0 h1 h2 h3 h4 h5 => ⟨h0, h1, h2, h3, h4, h5⟩))) (kx_X11_back (mn_X11_back (Q := fun r T => IV T ∧ Gr S T ∧ (FRI [(11, 0), (11, 1), (11, 2), (11, 24)] [] S T) ∧ bl r ∧ K2 S T ∧ ((NFq 11 2 c11 v0 T))) hI o_v0 (fun r T h0 h1 h2 h3 h4 h5 => ⟨h0, h1, h2, h3, h4, h5⟩))) (fun r T a b => ⟨a.1, a.2, b.2⟩)) (ky_X11_back (b := true) (L := LB) (by decide) (by decide) (fun z => z.elim) (mn_X11_back (Q := fun r T => IV T ∧ Gr S T ∧ (FRI [(11, 0), (11, 1), (11, 2), (11, 24)] [] S T) ∧ bl r ∧ K2 S T ∧ ((NFq 11 2 c11 v0 T))) hI o_v0 (fun r T h0 h1 h2 h3 h4 h5 => ⟨h0, h1, h2, h3, h4, h5⟩))) (fun r T a b => ⟨a.1, a.2, b.2⟩)) (cm_X11_back (Q3 := fun r T => (IV T ∧ Gr S T ∧ (FRI [(11, 0), (11, 1), (11, 2), (11, 24)] [] S T) ∧ bl r ∧ K2 S T ∧ ((NFq 11 2 c11 v0 T))) ∧ (KJ LWJ S T ∧ K9 false LWL S T)) (kj_X11_back (L := LWJ) (by decide) (by decide) (mn_X11_back (Q := fun r T => IV T ∧ Gr S T ∧ (FRI [(11, 0), (11, 1), (11, 2), (11, 24)] [] S T) ∧ bl r ∧ K2 S T ∧ ((NFq 11 2 c11 v0 T))) hI o_v0 (fun r T h0 h1 h2 h3 h4 h5 => ⟨h0, h1, h2, h3, h4, h5⟩))) (ky_X11_back (b := false) (L := LWL) (by decide) (by decide) (fun _ => rfl) (mn_X11_back (Q := fun r T => IV T ∧ Gr S T ∧ (FRI [(11, 0), (11, 1), (11, 2), (11, 24)] [] S T) ∧ bl r ∧ K2 S T ∧ ((NFq 11 2 c11 v0 T))) hI o_v0 (fun r T h0 h1 h2 h3 h4 h5 => ⟨h0, h1, h2, h3, h4, h5⟩))) (fun r T a b => ⟨a.1, a.2, b.2⟩)) (fun r T a b => ⟨a.1, a.2, b.2⟩)) (tl_X11_back hm md db (mn_X11_back (Q := fun r T => IV T ∧ Gr S T ∧ (FRI [(11, 0), (11, 1), (11, 2), (11, 24)] [] S T) ∧ bl r ∧ K2 S T ∧ ((NFq 11 2 c11 v0 T))) hI o_v0 (fun r T h0 h1 h2 h3 h4 h5 => ⟨h0, h1, h2, h3, h4, h5⟩))) (fun r T a b => ⟨a.1, a.2, b.2⟩)) (mn_X11_back (Q := fun r T => IV T ∧ Gr S T ∧ (FRI [(11, 0), (11, 1), (11, 2), (11, 24)] [] S T) ∧ bl r ∧ K2 S T ∧ ((NFq 11 2 c11 v0 T))) hI o_v0 (fun r T h0 h1 h2 h3 h4 h5 => ⟨h0, h1, h2, h3, h4, h5⟩)) (fun r T h _ => hq r T h.1.1 h.1.2.1 h.1.2.2.1 h.1.2.2.2.1 h.1.2.2.2.2.1 h.1.2.2.2.2.2 h.2)
theorem mz_X11_best {v0 : Nat} {v1 : Int32} {v2 : Int32} {v3 : Int32} {v4 : Int32} {Q : Int32 → HS → Prop} {S : HS} (hI : IV S) (o_v0 : ob S v0 11)  (hq : ∀ (r : Int32) (T : HS), IV T → Gr S T → FRI [(11, 0), (11, 1), (11, 2)] [] S T → K2 S T → (NFq 11 2 c11 v0 T) → (((K7 S T ∧ K8 S T) ∧ (K9 false LA S T ∧ K9 true LB S T)) ∧ (KJ LWJ S T ∧ K9 false LWL S T)) → Q r T) : P_X11_best v0 v1 v2 v3 v4 Q S := cm_X11_best (cm_X11_best (Q3 := fun r T => (IV T ∧ Gr S T ∧ (FRI [(11, 0), (11, 1), (11, 2)] [] S T) ∧ K2 S T ∧ ((NFq 11 2 c11 v0 T))) ∧ ((K7 S T ∧ K8 S T) ∧ (K9 false LA S T ∧ K9 true LB S T)) ∧ (KJ LWJ S T ∧ K9 false LWL S T)) (cm_X11_best (Q3 := fun r T => (IV T ∧ Gr S T ∧ (FRI [(11, 0), (11, 1), (11, 2)] [] S T) ∧ K2 S T ∧ ((NFq 11 2 c11 v0 T))) ∧ (K7 S T ∧ K8 S T) ∧ (K9 false LA S T ∧ K9 true LB S T)) (cm_X11_best (Q3 := fun r T => (IV T ∧ Gr S T ∧ (FRI [(11, 0), (11, 1), (11, 2)] [] S T) ∧ K2 S T ∧ ((NFq 11 2 c11 v0 T))) ∧ K7 S T ∧ K8 S T) (kw_X11_best (mn_X11_best (Q := fun r T => IV T ∧ Gr S T ∧ (FRI [(11, 0), (11, 1), (11, 2)] [] S T) ∧ K2 S T ∧ ((NFq 11 2 c11 v0 T))) hI o_v0 (fun r T h0 h1 h2 h3 h4 => ⟨h0, h1, h2, h3, h4⟩))) (kx_X11_best (mn_X11_best (Q := fun r T => IV T ∧ Gr S T ∧ (FRI [(11, 0), (11, 1), (11, 2)] [] S T) ∧ K2 S T ∧ ((NFq 11 2 c11 v0 T))) hI o_v0 (fun r T h0 h1 h2 h3 h4 => ⟨h0, h1, h2, h3, h4⟩))) (fun r T a b => ⟨a.1, a.2, b.2⟩)) (cm_X11_best (Q3 := fun r T => (IV T ∧ Gr S T ∧ (FRI [(11, 0), (11, 1), (11, 2)] [] S T) ∧ K2 S T ∧ ((NFq 11 2 c11 v0 T))) ∧ (K9 false LA S T ∧ K9 true LB S T)) (ky_X11_best (b := false) (L := LA) (by decide) (by decide) (fun _ => rfl) (mn_X11_best (Q := fun r T => IV T ∧ Gr S T ∧ (FRI [(11, 0), (11, 1), (11, 2)] [] S T) ∧ K2 S T ∧ ((NFq 11 2 c11 v0 T))) hI o_v0 (fun r T h0 h1 h2 h3 h4 => ⟨h0, h1, h2, h3, h4⟩))) (ky_X11_best (b := true) (L := LB) (by decide) (by decide) (fun z => z.elim) (mn_X11_best (Q := fun r T => IV T ∧ Gr S T ∧ (FRI [(11, 0), (11, 1), (11, 2)] [] S T) ∧ K2 S T ∧ ((NFq 11 2 c11 v0 T))) hI o_v0 (fun r T h0 h1 h2 h3 h4 => ⟨h0, h1, h2, h3, h4⟩))) (fun r T a b => ⟨a.1, a.2, b.2⟩)) (fun r T a b => ⟨a.1, a.2, b.2⟩)) (cm_X11_best (Q3 := fun r T => (IV T ∧ Gr S T ∧ (FRI [(11, 0), (11, 1), (11, 2)] [] S T) ∧ K2 S T ∧ ((NFq 11 2 c11 v0 T))) ∧ (KJ LWJ S T ∧ K9 false LWL S T)) (kj_X11_best (L := LWJ) (by decide) (by decide) (mn_X11_best (Q := fun r T => IV T ∧ Gr S T ∧ (FRI [(11, 0), (11, 1), (11, 2)] [] S T) ∧ K2 S T ∧ ((NFq 11 2 c11 v0 T))) hI o_v0 (fun r T h0 h1 h2 h3 h4 => ⟨h0, h1, h2, h3, h4⟩))) (ky_X11_best (b := false) (L := LWL) (by decide) (by decide) (fun _ => rfl) (mn_X11_best (Q := fun r T => IV T ∧ Gr S T ∧ (FRI [(11, 0), (11, 1), (11, 2)] [] S T) ∧ K2 S T ∧ ((NFq 11 2 c11 v0 T))) hI o_v0 (fun r T h0 h1 h2 h3 h4 => ⟨h0, h1, h2, h3, h4⟩))) (fun r T a b => ⟨a.1, a.2, b.2⟩)) (fun r T a b => ⟨a.1, a.2, b.2⟩)) (mn_X11_best (Q := fun r T => IV T ∧ Gr S T ∧ (FRI [(11, 0), (11, 1), (11, 2)] [] S T) ∧ K2 S T ∧ ((NFq 11 2 c11 v0 T))) hI o_v0 (fun r T h0 h1 h2 h3 h4 => ⟨h0, h1, h2, h3, h4⟩)) (fun r T h _ => hq r T h.1.1 h.1.2.1 h.1.2.2.1 h.1.2.2.2.1 h.1.2.2.2.2 h.2)
theorem mt_X11_day {v0 : Nat} {v1 : Int32} {v2 : Int32} {v3 : Int32} {v4 : Int32} {Q : Int32 → HS → Prop} {S : HS} (hI : IV S) (o_v0 : ob S v0 11) {A : AS} {G : GC} (hm : (fR S v0 3 = none ∧ A = A00) ∨ ∃ rd, WRm v0 rd A G S) (ab : ABd A) (gb : GBd A G) {D : DY} (md : MDd v0 D S) (db : DBd A D) (hq : ∀ (r : Int32) (T : HS), IV T → Gr S T → FRI [(11, 0), (11, 1), (11, 2), (11, 19), (11, 20), (11, 24), (11, 25)] [] S T → K2 S T → (NFq 11 2 c11 v0 T) → ((((K7 S T ∧ K8 S T) ∧ K9 true LB S T) ∧ (KJ LWJ S T ∧ K9 false LWL S T)) ∧ r = tellday A G v1 v2 v3 v4 ∧ MDd v0 (nxday A G D v1 v2 v3 v4) T) → Q r T) : P_X11_day v0 v1 v2 v3 v4 Q S := cm_X11_day (cm_X11_day (Q3 := fun r T => (IV T ∧ Gr S T ∧ (FRI [(11, 0), (11, 1), (11, 2), (11, 19), (11, 20), (11, 24), (11, 25)] [] S T) ∧ K2 S T ∧ ((NFq 11 2 c11 v0 T))) ∧ (((K7 S T ∧ K8 S T) ∧ K9 true LB S T) ∧ (KJ LWJ S T ∧ K9 false LWL S T)) ∧ r = tellday A G v1 v2 v3 v4 ∧ MDd v0 (nxday A G D v1 v2 v3 v4) T) (cm_X11_day (Q3 := fun r T => (IV T ∧ Gr S T ∧ (FRI [(11, 0), (11, 1), (11, 2), (11, 19), (11, 20), (11, 24), (11, 25)] [] S T) ∧ K2 S T ∧ ((NFq 11 2 c11 v0 T))) ∧ ((K7 S T ∧ K8 S T) ∧ K9 true LB S T) ∧ (KJ LWJ S T ∧ K9 false LWL S T)) (cm_X11_day (Q3 := fun r T => (IV T ∧ Gr S T ∧ (FRI [(11, 0), (11, 1), (11, 2), (11, 19), (11, 20), (11, 24), (11, 25)] [] S T) ∧ K2 S T ∧ ((NFq 11 2 c11 v0 T))) ∧ (K7 S T ∧ K8 S T) ∧ K9 true LB S T) (cm_X11_day (Q3 := fun r T => (IV T ∧ Gr S T ∧ (FRI [(11, 0), (11, 1), (11, 2), (11, 19), (11, 20), (11, 24), (11, 25)] [] S T) ∧ K2 S T ∧ ((NFq 11 2 c11 v0 T))) ∧ K7 S T ∧ K8 S T) (kw_X11_day (mn_X11_day (Q := fun r T => IV T ∧ Gr S T ∧ (FRI [(11, 0), (11, 1), (11, 2), (11, 19), (11, 20), (11, 24), (11, 25)] [] S T) ∧ K2 S T ∧ ((NFq 11 2 c11 v0 T))) hI o_v0 (fun r T h0 h1 h2 h3 h4 => ⟨h0, h1, h2, h3, h4⟩))) (kx_X11_day (mn_X11_day (Q := fun r T => IV T ∧ Gr S T ∧ (FRI [(11, 0), (11, 1), (11, 2), (11, 19), (11, 20), (11, 24), (11, 25)] [] S T) ∧ K2 S T ∧ ((NFq 11 2 c11 v0 T))) hI o_v0 (fun r T h0 h1 h2 h3 h4 => ⟨h0, h1, h2, h3, h4⟩))) (fun r T a b => ⟨a.1, a.2, b.2⟩)) (ky_X11_day (b := true) (L := LB) (by decide) (by decide) (fun z => z.elim) (mn_X11_day (Q := fun r T => IV T ∧ Gr S T ∧ (FRI [(11, 0), (11, 1), (11, 2), (11, 19), (11, 20), (11, 24), (11, 25)] [] S T) ∧ K2 S T ∧ ((NFq 11 2 c11 v0 T))) hI o_v0 (fun r T h0 h1 h2 h3 h4 => ⟨h0, h1, h2, h3, h4⟩))) (fun r T a b => ⟨a.1, a.2, b.2⟩)) (cm_X11_day (Q3 := fun r T => (IV T ∧ Gr S T ∧ (FRI [(11, 0), (11, 1), (11, 2), (11, 19), (11, 20), (11, 24), (11, 25)] [] S T) ∧ K2 S T ∧ ((NFq 11 2 c11 v0 T))) ∧ (KJ LWJ S T ∧ K9 false LWL S T)) (kj_X11_day (L := LWJ) (by decide) (by decide) (mn_X11_day (Q := fun r T => IV T ∧ Gr S T ∧ (FRI [(11, 0), (11, 1), (11, 2), (11, 19), (11, 20), (11, 24), (11, 25)] [] S T) ∧ K2 S T ∧ ((NFq 11 2 c11 v0 T))) hI o_v0 (fun r T h0 h1 h2 h3 h4 => ⟨h0, h1, h2, h3, h4⟩))) (ky_X11_day (b := false) (L := LWL) (by decide) (by decide) (fun _ => rfl) (mn_X11_day (Q := fun r T => IV T ∧ Gr S T ∧ (FRI [(11, 0), (11, 1), (11, 2), (11, 19), (11, 20), (11, 24), (11, 25)] [] S T) ∧ K2 S T ∧ ((NFq 11 2 c11 v0 T))) hI o_v0 (fun r T h0 h1 h2 h3 h4 => ⟨h0, h1, h2, h3, h4⟩))) (fun r T a b => ⟨a.1, a.2, b.2⟩)) (fun r T a b => ⟨a.1, a.2, b.2⟩)) (tl_X11_day hm ab md db (mn_X11_day (Q := fun r T => IV T ∧ Gr S T ∧ (FRI [(11, 0), (11, 1), (11, 2), (11, 19), (11, 20), (11, 24), (11, 25)] [] S T) ∧ K2 S T ∧ ((NFq 11 2 c11 v0 T))) hI o_v0 (fun r T h0 h1 h2 h3 h4 => ⟨h0, h1, h2, h3, h4⟩))) (fun r T a b => ⟨a.1, a.2, b.2⟩)) (mn_X11_day (Q := fun r T => IV T ∧ Gr S T ∧ (FRI [(11, 0), (11, 1), (11, 2), (11, 19), (11, 20), (11, 24), (11, 25)] [] S T) ∧ K2 S T ∧ ((NFq 11 2 c11 v0 T))) hI o_v0 (fun r T h0 h1 h2 h3 h4 => ⟨h0, h1, h2, h3, h4⟩)) (fun r T h _ => hq r T h.1.1 h.1.2.1 h.1.2.2.1 h.1.2.2.2.1 h.1.2.2.2.2 h.2)
theorem mz_X11_driest {v0 : Nat} {v1 : Int32} {v2 : Int32} {v3 : Int32} {Q : Int32 → HS → Prop} {S : HS} (hI : IV S) (o_v0 : ob S v0 11)  (hq : ∀ (r : Int32) (T : HS), IV T → Gr S T → FRI [(11, 0), (11, 1), (11, 2)] [] S T → K2 S T → (NFq 11 2 c11 v0 T) → (((K7 S T ∧ K8 S T) ∧ (K9 false LA S T ∧ K9 true LB S T)) ∧ (KJ LWJ S T ∧ K9 false LWL S T)) → Q r T) : P_X11_driest v0 v1 v2 v3 Q S := cm_X11_driest (cm_X11_driest (Q3 := fun r T => (IV T ∧ Gr S T ∧ (FRI [(11, 0), (11, 1), (11, 2)] [] S T) ∧ K2 S T ∧ ((NFq 11 2 c11 v0 T))) ∧ ((K7 S T ∧ K8 S T) ∧ (K9 false LA S T ∧ K9 true LB S T)) ∧ (KJ LWJ S T ∧ K9 false LWL S T)) (cm_X11_driest (Q3 := fun r T => (IV T ∧ Gr S T ∧ (FRI [(11, 0), (11, 1), (11, 2)] [] S T) ∧ K2 S T ∧ ((NFq 11 2 c11 v0 T))) ∧ (K7 S T ∧ K8 S T) ∧ (K9 false LA S T ∧ K9 true LB S T)) (cm_X11_driest (Q3 := fun r T => (IV T ∧ Gr S T ∧ (FRI [(11, 0), (11, 1), (11, 2)] [] S T) ∧ K2 S T ∧ ((NFq 11 2 c11 v0 T))) ∧ K7 S T ∧ K8 S T) (kw_X11_driest (mn_X11_driest (Q := fun r T => IV T ∧ Gr S T ∧ (FRI [(11, 0), (11, 1), (11, 2)] [] S T) ∧ K2 S T ∧ ((NFq 11 2 c11 v0 T))) hI o_v0 (fun r T h0 h1 h2 h3 h4 => ⟨h0, h1, h2, h3, h4⟩))) (kx_X11_driest (mn_X11_driest (Q := fun r T => IV T ∧ Gr S T ∧ (FRI [(11, 0), (11, 1), (11, 2)] [] S T) ∧ K2 S T ∧ ((NFq 11 2 c11 v0 T))) hI o_v0 (fun r T h0 h1 h2 h3 h4 => ⟨h0, h1, h2, h3, h4⟩))) (fun r T a b => ⟨a.1, a.2, b.2⟩)) (cm_X11_driest (Q3 := fun r T => (IV T ∧ Gr S T ∧ (FRI [(11, 0), (11, 1), (11, 2)] [] S T) ∧ K2 S T ∧ ((NFq 11 2 c11 v0 T))) ∧ (K9 false LA S T ∧ K9 true LB S T)) (ky_X11_driest (b := false) (L := LA) (by decide) (by decide) (fun _ => rfl) (mn_X11_driest (Q := fun r T => IV T ∧ Gr S T ∧ (FRI [(11, 0), (11, 1), (11, 2)] [] S T) ∧ K2 S T ∧ ((NFq 11 2 c11 v0 T))) hI o_v0 (fun r T h0 h1 h2 h3 h4 => ⟨h0, h1, h2, h3, h4⟩))) (ky_X11_driest (b := true) (L := LB) (by decide) (by decide) (fun z => z.elim) (mn_X11_driest (Q := fun r T => IV T ∧ Gr S T ∧ (FRI [(11, 0), (11, 1), (11, 2)] [] S T) ∧ K2 S T ∧ ((NFq 11 2 c11 v0 T))) hI o_v0 (fun r T h0 h1 h2 h3 h4 => ⟨h0, h1, h2, h3, h4⟩))) (fun r T a b => ⟨a.1, a.2, b.2⟩)) (fun r T a b => ⟨a.1, a.2, b.2⟩)) (cm_X11_driest (Q3 := fun r T => (IV T ∧ Gr S T ∧ (FRI [(11, 0), (11, 1), (11, 2)] [] S T) ∧ K2 S T ∧ ((NFq 11 2 c11 v0 T))) ∧ (KJ LWJ S T ∧ K9 false LWL S T)) (kj_X11_driest (L := LWJ) (by decide) (by decide) (mn_X11_driest (Q := fun r T => IV T ∧ Gr S T ∧ (FRI [(11, 0), (11, 1), (11, 2)] [] S T) ∧ K2 S T ∧ ((NFq 11 2 c11 v0 T))) hI o_v0 (fun r T h0 h1 h2 h3 h4 => ⟨h0, h1, h2, h3, h4⟩))) (ky_X11_driest (b := false) (L := LWL) (by decide) (by decide) (fun _ => rfl) (mn_X11_driest (Q := fun r T => IV T ∧ Gr S T ∧ (FRI [(11, 0), (11, 1), (11, 2)] [] S T) ∧ K2 S T ∧ ((NFq 11 2 c11 v0 T))) hI o_v0 (fun r T h0 h1 h2 h3 h4 => ⟨h0, h1, h2, h3, h4⟩))) (fun r T a b => ⟨a.1, a.2, b.2⟩)) (fun r T a b => ⟨a.1, a.2, b.2⟩)) (mn_X11_driest (Q := fun r T => IV T ∧ Gr S T ∧ (FRI [(11, 0), (11, 1), (11, 2)] [] S T) ∧ K2 S T ∧ ((NFq 11 2 c11 v0 T))) hI o_v0 (fun r T h0 h1 h2 h3 h4 => ⟨h0, h1, h2, h3, h4⟩)) (fun r T h _ => hq r T h.1.1 h.1.2.1 h.1.2.2.1 h.1.2.2.2.1 h.1.2.2.2.2 h.2)
theorem mz_X11_even {v0 : Nat} {v1 : Int32} {v2 : Int32} {v3 : Int32} {v4 : Int32} {Q : Int32 → HS → Prop} {S : HS} (hI : IV S) (o_v0 : ob S v0 11)  (hq : ∀ (r : Int32) (T : HS), IV T → Gr S T → FRI [(11, 0), (11, 1), (11, 2)] [] S T → K2 S T → (NFq 11 2 c11 v0 T) → (((K7 S T ∧ K8 S T) ∧ (K9 false LA S T ∧ K9 true LB S T)) ∧ (KJ LWJ S T ∧ K9 false LWL S T)) → Q r T) : P_X11_even v0 v1 v2 v3 v4 Q S := cm_X11_even (cm_X11_even (Q3 := fun r T => (IV T ∧ Gr S T ∧ (FRI [(11, 0), (11, 1), (11, 2)] [] S T) ∧ K2 S T ∧ ((NFq 11 2 c11 v0 T))) ∧ ((K7 S T ∧ K8 S T) ∧ (K9 false LA S T ∧ K9 true LB S T)) ∧ (KJ LWJ S T ∧ K9 false LWL S T)) (cm_X11_even (Q3 := fun r T => (IV T ∧ Gr S T ∧ (FRI [(11, 0), (11, 1), (11, 2)] [] S T) ∧ K2 S T ∧ ((NFq 11 2 c11 v0 T))) ∧ (K7 S T ∧ K8 S T) ∧ (K9 false LA S T ∧ K9 true LB S T)) (cm_X11_even (Q3 := fun r T => (IV T ∧ Gr S T ∧ (FRI [(11, 0), (11, 1), (11, 2)] [] S T) ∧ K2 S T ∧ ((NFq 11 2 c11 v0 T))) ∧ K7 S T ∧ K8 S T) (kw_X11_even (mn_X11_even (Q := fun r T => IV T ∧ Gr S T ∧ (FRI [(11, 0), (11, 1), (11, 2)] [] S T) ∧ K2 S T ∧ ((NFq 11 2 c11 v0 T))) hI o_v0 (fun r T h0 h1 h2 h3 h4 => ⟨h0, h1, h2, h3, h4⟩))) (kx_X11_even (mn_X11_even (Q := fun r T => IV T ∧ Gr S T ∧ (FRI [(11, 0), (11, 1), (11, 2)] [] S T) ∧ K2 S T ∧ ((NFq 11 2 c11 v0 T))) hI o_v0 (fun r T h0 h1 h2 h3 h4 => ⟨h0, h1, h2, h3, h4⟩))) (fun r T a b => ⟨a.1, a.2, b.2⟩)) (cm_X11_even (Q3 := fun r T => (IV T ∧ Gr S T ∧ (FRI [(11, 0), (11, 1), (11, 2)] [] S T) ∧ K2 S T ∧ ((NFq 11 2 c11 v0 T))) ∧ (K9 false LA S T ∧ K9 true LB S T)) (ky_X11_even (b := false) (L := LA) (by decide) (by decide) (fun _ => rfl) (mn_X11_even (Q := fun r T => IV T ∧ Gr S T ∧ (FRI [(11, 0), (11, 1), (11, 2)] [] S T) ∧ K2 S T ∧ ((NFq 11 2 c11 v0 T))) hI o_v0 (fun r T h0 h1 h2 h3 h4 => ⟨h0, h1, h2, h3, h4⟩))) (ky_X11_even (b := true) (L := LB) (by decide) (by decide) (fun z => z.elim) (mn_X11_even (Q := fun r T => IV T ∧ Gr S T ∧ (FRI [(11, 0), (11, 1), (11, 2)] [] S T) ∧ K2 S T ∧ ((NFq 11 2 c11 v0 T))) hI o_v0 (fun r T h0 h1 h2 h3 h4 => ⟨h0, h1, h2, h3, h4⟩))) (fun r T a b => ⟨a.1, a.2, b.2⟩)) (fun r T a b => ⟨a.1, a.2, b.2⟩)) (cm_X11_even (Q3 := fun r T => (IV T ∧ Gr S T ∧ (FRI [(11, 0), (11, 1), (11, 2)] [] S T) ∧ K2 S T ∧ ((NFq 11 2 c11 v0 T))) ∧ (KJ LWJ S T ∧ K9 false LWL S T)) (kj_X11_even (L := LWJ) (by decide) (by decide) (mn_X11_even (Q := fun r T => IV T ∧ Gr S T ∧ (FRI [(11, 0), (11, 1), (11, 2)] [] S T) ∧ K2 S T ∧ ((NFq 11 2 c11 v0 T))) hI o_v0 (fun r T h0 h1 h2 h3 h4 => ⟨h0, h1, h2, h3, h4⟩))) (ky_X11_even (b := false) (L := LWL) (by decide) (by decide) (fun _ => rfl) (mn_X11_even (Q := fun r T => IV T ∧ Gr S T ∧ (FRI [(11, 0), (11, 1), (11, 2)] [] S T) ∧ K2 S T ∧ ((NFq 11 2 c11 v0 T))) hI o_v0 (fun r T h0 h1 h2 h3 h4 => ⟨h0, h1, h2, h3, h4⟩))) (fun r T a b => ⟨a.1, a.2, b.2⟩)) (fun r T a b => ⟨a.1, a.2, b.2⟩)) (mn_X11_even (Q := fun r T => IV T ∧ Gr S T ∧ (FRI [(11, 0), (11, 1), (11, 2)] [] S T) ∧ K2 S T ∧ ((NFq 11 2 c11 v0 T))) hI o_v0 (fun r T h0 h1 h2 h3 h4 => ⟨h0, h1, h2, h3, h4⟩)) (fun r T h _ => hq r T h.1.1 h.1.2.1 h.1.2.2.1 h.1.2.2.2.1 h.1.2.2.2.2 h.2)
theorem mz_X11_face {v0 : Nat} {v1 : Int32} {v2 : Int32} {v3 : Int32} {v4 : Int32} {v5 : Int32} {v6 : Int32} {v7 : Int32} {Q : Int64 → HS → Prop} {S : HS} (hI : IV S) (o_v0 : ob S v0 11)  (hq : ∀ (r : Int64) (T : HS), IV T → Gr S T → FRI [(11, 0), (11, 1), (11, 2)] [] S T → K2 S T → (NFq 11 2 c11 v0 T) → (((K7 S T ∧ K8 S T) ∧ (K9 false LA S T ∧ K9 true LB S T)) ∧ (KJ LWJ S T ∧ K9 false LWL S T)) → Q r T) : P_X11_face v0 v1 v2 v3 v4 v5 v6 v7 Q S := cm_X11_face (cm_X11_face (Q3 := fun r T => (IV T ∧ Gr S T ∧ (FRI [(11, 0), (11, 1), (11, 2)] [] S T) ∧ K2 S T ∧ ((NFq 11 2 c11 v0 T))) ∧ ((K7 S T ∧ K8 S T) ∧ (K9 false LA S T ∧ K9 true LB S T)) ∧ (KJ LWJ S T ∧ K9 false LWL S T)) (cm_X11_face (Q3 := fun r T => (IV T ∧ Gr S T ∧ (FRI [(11, 0), (11, 1), (11, 2)] [] S T) ∧ K2 S T ∧ ((NFq 11 2 c11 v0 T))) ∧ (K7 S T ∧ K8 S T) ∧ (K9 false LA S T ∧ K9 true LB S T)) (cm_X11_face (Q3 := fun r T => (IV T ∧ Gr S T ∧ (FRI [(11, 0), (11, 1), (11, 2)] [] S T) ∧ K2 S T ∧ ((NFq 11 2 c11 v0 T))) ∧ K7 S T ∧ K8 S T) (kw_X11_face (mn_X11_face (Q := fun r T => IV T ∧ Gr S T ∧ (FRI [(11, 0), (11, 1), (11, 2)] [] S T) ∧ K2 S T ∧ ((NFq 11 2 c11 v0 T))) hI o_v0 (fun r T h0 h1 h2 h3 h4 => ⟨h0, h1, h2, h3, h4⟩))) (kx_X11_face (mn_X11_face (Q := fun r T => IV T ∧ Gr S T ∧ (FRI [(11, 0), (11, 1), (11, 2)] [] S T) ∧ K2 S T ∧ ((NFq 11 2 c11 v0 T))) hI o_v0 (fun r T h0 h1 h2 h3 h4 => ⟨h0, h1, h2, h3, h4⟩))) (fun r T a b => ⟨a.1, a.2, b.2⟩)) (cm_X11_face (Q3 := fun r T => (IV T ∧ Gr S T ∧ (FRI [(11, 0), (11, 1), (11, 2)] [] S T) ∧ K2 S T ∧ ((NFq 11 2 c11 v0 T))) ∧ (K9 false LA S T ∧ K9 true LB S T)) (ky_X11_face (b := false) (L := LA) (by decide) (by decide) (fun _ => rfl) (mn_X11_face (Q := fun r T => IV T ∧ Gr S T ∧ (FRI [(11, 0), (11, 1), (11, 2)] [] S T) ∧ K2 S T ∧ ((NFq 11 2 c11 v0 T))) hI o_v0 (fun r T h0 h1 h2 h3 h4 => ⟨h0, h1, h2, h3, h4⟩))) (ky_X11_face (b := true) (L := LB) (by decide) (by decide) (fun z => z.elim) (mn_X11_face (Q := fun r T => IV T ∧ Gr S T ∧ (FRI [(11, 0), (11, 1), (11, 2)] [] S T) ∧ K2 S T ∧ ((NFq 11 2 c11 v0 T))) hI o_v0 (fun r T h0 h1 h2 h3 h4 => ⟨h0, h1, h2, h3, h4⟩))) (fun r T a b => ⟨a.1, a.2, b.2⟩)) (fun r T a b => ⟨a.1, a.2, b.2⟩)) (cm_X11_face (Q3 := fun r T => (IV T ∧ Gr S T ∧ (FRI [(11, 0), (11, 1), (11, 2)] [] S T) ∧ K2 S T ∧ ((NFq 11 2 c11 v0 T))) ∧ (KJ LWJ S T ∧ K9 false LWL S T)) (kj_X11_face (L := LWJ) (by decide) (by decide) (mn_X11_face (Q := fun r T => IV T ∧ Gr S T ∧ (FRI [(11, 0), (11, 1), (11, 2)] [] S T) ∧ K2 S T ∧ ((NFq 11 2 c11 v0 T))) hI o_v0 (fun r T h0 h1 h2 h3 h4 => ⟨h0, h1, h2, h3, h4⟩))) (ky_X11_face (b := false) (L := LWL) (by decide) (by decide) (fun _ => rfl) (mn_X11_face (Q := fun r T => IV T ∧ Gr S T ∧ (FRI [(11, 0), (11, 1), (11, 2)] [] S T) ∧ K2 S T ∧ ((NFq 11 2 c11 v0 T))) hI o_v0 (fun r T h0 h1 h2 h3 h4 => ⟨h0, h1, h2, h3, h4⟩))) (fun r T a b => ⟨a.1, a.2, b.2⟩)) (fun r T a b => ⟨a.1, a.2, b.2⟩)) (mn_X11_face (Q := fun r T => IV T ∧ Gr S T ∧ (FRI [(11, 0), (11, 1), (11, 2)] [] S T) ∧ K2 S T ∧ ((NFq 11 2 c11 v0 T))) hI o_v0 (fun r T h0 h1 h2 h3 h4 => ⟨h0, h1, h2, h3, h4⟩)) (fun r T h _ => hq r T h.1.1 h.1.2.1 h.1.2.2.1 h.1.2.2.2.1 h.1.2.2.2.2 h.2)
theorem mz_X11_fault {v0 : Nat} {Q : Int32 → HS → Prop} {S : HS} (hI : IV S) (o_v0 : ob S v0 11)  (hq : ∀ (r : Int32) (T : HS), IV T → Gr S T → FRI [(11, 0)] [] S T → K2 S T → (r = fI S v0 13) → (((K7 S T ∧ K8 S T) ∧ (K9 false LA S T ∧ K9 true LB S T)) ∧ (KJ LWJ S T ∧ K9 false LWL S T)) → Q r T) : P_X11_fault v0 Q S := cm_X11_fault (cm_X11_fault (Q3 := fun r T => (IV T ∧ Gr S T ∧ (FRI [(11, 0)] [] S T) ∧ K2 S T ∧ ((r = fI S v0 13))) ∧ ((K7 S T ∧ K8 S T) ∧ (K9 false LA S T ∧ K9 true LB S T)) ∧ (KJ LWJ S T ∧ K9 false LWL S T)) (cm_X11_fault (Q3 := fun r T => (IV T ∧ Gr S T ∧ (FRI [(11, 0)] [] S T) ∧ K2 S T ∧ ((r = fI S v0 13))) ∧ (K7 S T ∧ K8 S T) ∧ (K9 false LA S T ∧ K9 true LB S T)) (cm_X11_fault (Q3 := fun r T => (IV T ∧ Gr S T ∧ (FRI [(11, 0)] [] S T) ∧ K2 S T ∧ ((r = fI S v0 13))) ∧ K7 S T ∧ K8 S T) (kw_X11_fault (mv_X11_fault (Q := fun r T => IV T ∧ Gr S T ∧ (FRI [(11, 0)] [] S T) ∧ K2 S T ∧ ((r = fI S v0 13))) hI o_v0 (fun r T h0 h1 h2 h3 h4 => ⟨h0, h1, h2, h3, h4⟩))) (kx_X11_fault (mv_X11_fault (Q := fun r T => IV T ∧ Gr S T ∧ (FRI [(11, 0)] [] S T) ∧ K2 S T ∧ ((r = fI S v0 13))) hI o_v0 (fun r T h0 h1 h2 h3 h4 => ⟨h0, h1, h2, h3, h4⟩))) (fun r T a b => ⟨a.1, a.2, b.2⟩)) (cm_X11_fault (Q3 := fun r T => (IV T ∧ Gr S T ∧ (FRI [(11, 0)] [] S T) ∧ K2 S T ∧ ((r = fI S v0 13))) ∧ (K9 false LA S T ∧ K9 true LB S T)) (ky_X11_fault (b := false) (L := LA) (by decide) (by decide) (fun _ => rfl) (mv_X11_fault (Q := fun r T => IV T ∧ Gr S T ∧ (FRI [(11, 0)] [] S T) ∧ K2 S T ∧ ((r = fI S v0 13))) hI o_v0 (fun r T h0 h1 h2 h3 h4 => ⟨h0, h1, h2, h3, h4⟩))) (ky_X11_fault (b := true) (L := LB) (by decide) (by decide) (fun z => z.elim) (mv_X11_fault (Q := fun r T => IV T ∧ Gr S T ∧ (FRI [(11, 0)] [] S T) ∧ K2 S T ∧ ((r = fI S v0 13))) hI o_v0 (fun r T h0 h1 h2 h3 h4 => ⟨h0, h1, h2, h3, h4⟩))) (fun r T a b => ⟨a.1, a.2, b.2⟩)) (fun r T a b => ⟨a.1, a.2, b.2⟩)) (cm_X11_fault (Q3 := fun r T => (IV T ∧ Gr S T ∧ (FRI [(11, 0)] [] S T) ∧ K2 S T ∧ ((r = fI S v0 13))) ∧ (KJ LWJ S T ∧ K9 false LWL S T)) (kj_X11_fault (L := LWJ) (by decide) (by decide) (mv_X11_fault (Q := fun r T => IV T ∧ Gr S T ∧ (FRI [(11, 0)] [] S T) ∧ K2 S T ∧ ((r = fI S v0 13))) hI o_v0 (fun r T h0 h1 h2 h3 h4 => ⟨h0, h1, h2, h3, h4⟩))) (ky_X11_fault (b := false) (L := LWL) (by decide) (by decide) (fun _ => rfl) (mv_X11_fault (Q := fun r T => IV T ∧ Gr S T ∧ (FRI [(11, 0)] [] S T) ∧ K2 S T ∧ ((r = fI S v0 13))) hI o_v0 (fun r T h0 h1 h2 h3 h4 => ⟨h0, h1, h2, h3, h4⟩))) (fun r T a b => ⟨a.1, a.2, b.2⟩)) (fun r T a b => ⟨a.1, a.2, b.2⟩)) (mv_X11_fault (Q := fun r T => IV T ∧ Gr S T ∧ (FRI [(11, 0)] [] S T) ∧ K2 S T ∧ ((r = fI S v0 13))) hI o_v0 (fun r T h0 h1 h2 h3 h4 => ⟨h0, h1, h2, h3, h4⟩)) (fun r T h _ => hq r T h.1.1 h.1.2.1 h.1.2.2.1 h.1.2.2.2.1 h.1.2.2.2.2 h.2)
theorem mz_X11_feed {v0 : Nat} {v1 : Int32} {v2 : Int32} {v3 : Int32} {v4 : Int32} {v5 : Int32} {Q : Int32 → HS → Prop} {S : HS} (hI : IV S) (o_v0 : ob S v0 11) {f : Nat → Int32} {t a : Nat} (P : TP 5 6 f t a v0 S) (ht : t ≤ 900)  (hq : ∀ (r : Int32) (T : HS), IV T → Gr S T → FRI [(11, 0), (11, 6)] [] S T → ((900 < fI S v0 6 + 20 → r = -1 ∧ fI T v0 6 = fI S v0 6) ∧ (fI S v0 6 + 20 ≤ 900 → r = fI T v0 6 ∧ fI T v0 6 = fI S v0 6 + 20)) → (FT [0, 6] a v0 S T ∧ ((t + 20 ≤ 900 ∧ r = nI (t + 20) ∧ TP 5 6 (f20 f t v1 v2 v3 v4 v5) (t + 20) a v0 T) ∨ (900 < t + 20 ∧ r = -1 ∧ TP 5 6 (f20 f t v1 v2 v3 v4 v5) t a v0 T))) → (((K7 S T ∧ K8 S T) ∧ (K9 false LA S T ∧ K9 true LB S T)) ∧ (KJ LWJ S T ∧ K9 false LWL S T)) → Q r T) : P_X11_feed v0 v1 v2 v3 v4 v5 Q S := cm_X11_feed (cm_X11_feed (Q3 := fun r T => (IV T ∧ Gr S T ∧ (FRI [(11, 0), (11, 6)] [] S T) ∧ (((900 < fI S v0 6 + 20 → r = -1 ∧ fI T v0 6 = fI S v0 6) ∧ (fI S v0 6 + 20 ≤ 900 → r = fI T v0 6 ∧ fI T v0 6 = fI S v0 6 + 20))) ∧ ((FT [0, 6] a v0 S T ∧ ((t + 20 ≤ 900 ∧ r = nI (t + 20) ∧ TP 5 6 (f20 f t v1 v2 v3 v4 v5) (t + 20) a v0 T) ∨ (900 < t + 20 ∧ r = -1 ∧ TP 5 6 (f20 f t v1 v2 v3 v4 v5) t a v0 T))))) ∧ ((K7 S T ∧ K8 S T) ∧ (K9 false LA S T ∧ K9 true LB S T)) ∧ (KJ LWJ S T ∧ K9 false LWL S T)) (cm_X11_feed (Q3 := fun r T => (IV T ∧ Gr S T ∧ (FRI [(11, 0), (11, 6)] [] S T) ∧ (((900 < fI S v0 6 + 20 → r = -1 ∧ fI T v0 6 = fI S v0 6) ∧ (fI S v0 6 + 20 ≤ 900 → r = fI T v0 6 ∧ fI T v0 6 = fI S v0 6 + 20))) ∧ ((FT [0, 6] a v0 S T ∧ ((t + 20 ≤ 900 ∧ r = nI (t + 20) ∧ TP 5 6 (f20 f t v1 v2 v3 v4 v5) (t + 20) a v0 T) ∨ (900 < t + 20 ∧ r = -1 ∧ TP 5 6 (f20 f t v1 v2 v3 v4 v5) t a v0 T))))) ∧ (K7 S T ∧ K8 S T) ∧ (K9 false LA S T ∧ K9 true LB S T)) (cm_X11_feed (Q3 := fun r T => (IV T ∧ Gr S T ∧ (FRI [(11, 0), (11, 6)] [] S T) ∧ (((900 < fI S v0 6 + 20 → r = -1 ∧ fI T v0 6 = fI S v0 6) ∧ (fI S v0 6 + 20 ≤ 900 → r = fI T v0 6 ∧ fI T v0 6 = fI S v0 6 + 20))) ∧ ((FT [0, 6] a v0 S T ∧ ((t + 20 ≤ 900 ∧ r = nI (t + 20) ∧ TP 5 6 (f20 f t v1 v2 v3 v4 v5) (t + 20) a v0 T) ∨ (900 < t + 20 ∧ r = -1 ∧ TP 5 6 (f20 f t v1 v2 v3 v4 v5) t a v0 T))))) ∧ K7 S T ∧ K8 S T) (kw_X11_feed (ml_X11_feed (Q := fun r T => IV T ∧ Gr S T ∧ (FRI [(11, 0), (11, 6)] [] S T) ∧ (((900 < fI S v0 6 + 20 → r = -1 ∧ fI T v0 6 = fI S v0 6) ∧ (fI S v0 6 + 20 ≤ 900 → r = fI T v0 6 ∧ fI T v0 6 = fI S v0 6 + 20))) ∧ ((FT [0, 6] a v0 S T ∧ ((t + 20 ≤ 900 ∧ r = nI (t + 20) ∧ TP 5 6 (f20 f t v1 v2 v3 v4 v5) (t + 20) a v0 T) ∨ (900 < t + 20 ∧ r = -1 ∧ TP 5 6 (f20 f t v1 v2 v3 v4 v5) t a v0 T))))) hI o_v0 P ht (fun r T h0 h1 h2 h3 h4 => ⟨h0, h1, h2, h3, h4⟩))) (kx_X11_feed (ml_X11_feed (Q := fun r T => IV T ∧ Gr S T ∧ (FRI [(11, 0), (11, 6)] [] S T) ∧ (((900 < fI S v0 6 + 20 → r = -1 ∧ fI T v0 6 = fI S v0 6) ∧ (fI S v0 6 + 20 ≤ 900 → r = fI T v0 6 ∧ fI T v0 6 = fI S v0 6 + 20))) ∧ ((FT [0, 6] a v0 S T ∧ ((t + 20 ≤ 900 ∧ r = nI (t + 20) ∧ TP 5 6 (f20 f t v1 v2 v3 v4 v5) (t + 20) a v0 T) ∨ (900 < t + 20 ∧ r = -1 ∧ TP 5 6 (f20 f t v1 v2 v3 v4 v5) t a v0 T))))) hI o_v0 P ht (fun r T h0 h1 h2 h3 h4 => ⟨h0, h1, h2, h3, h4⟩))) (fun r T a b => ⟨a.1, a.2, b.2⟩)) (cm_X11_feed (Q3 := fun r T => (IV T ∧ Gr S T ∧ (FRI [(11, 0), (11, 6)] [] S T) ∧ (((900 < fI S v0 6 + 20 → r = -1 ∧ fI T v0 6 = fI S v0 6) ∧ (fI S v0 6 + 20 ≤ 900 → r = fI T v0 6 ∧ fI T v0 6 = fI S v0 6 + 20))) ∧ ((FT [0, 6] a v0 S T ∧ ((t + 20 ≤ 900 ∧ r = nI (t + 20) ∧ TP 5 6 (f20 f t v1 v2 v3 v4 v5) (t + 20) a v0 T) ∨ (900 < t + 20 ∧ r = -1 ∧ TP 5 6 (f20 f t v1 v2 v3 v4 v5) t a v0 T))))) ∧ (K9 false LA S T ∧ K9 true LB S T)) (ky_X11_feed (b := false) (L := LA) (by decide) (by decide) (fun _ => rfl) (ml_X11_feed (Q := fun r T => IV T ∧ Gr S T ∧ (FRI [(11, 0), (11, 6)] [] S T) ∧ (((900 < fI S v0 6 + 20 → r = -1 ∧ fI T v0 6 = fI S v0 6) ∧ (fI S v0 6 + 20 ≤ 900 → r = fI T v0 6 ∧ fI T v0 6 = fI S v0 6 + 20))) ∧ ((FT [0, 6] a v0 S T ∧ ((t + 20 ≤ 900 ∧ r = nI (t + 20) ∧ TP 5 6 (f20 f t v1 v2 v3 v4 v5) (t + 20) a v0 T) ∨ (900 < t + 20 ∧ r = -1 ∧ TP 5 6 (f20 f t v1 v2 v3 v4 v5) t a v0 T))))) hI o_v0 P ht (fun r T h0 h1 h2 h3 h4 => ⟨h0, h1, h2, h3, h4⟩))) (ky_X11_feed (b := true) (L := LB) (by decide) (by decide) (fun z => z.elim) (ml_X11_feed (Q := fun r T => IV T ∧ Gr S T ∧ (FRI [(11, 0), (11, 6)] [] S T) ∧ (((900 < fI S v0 6 + 20 → r = -1 ∧ fI T v0 6 = fI S v0 6) ∧ (fI S v0 6 + 20 ≤ 900 → r = fI T v0 6 ∧ fI T v0 6 = fI S v0 6 + 20))) ∧ ((FT [0, 6] a v0 S T ∧ ((t + 20 ≤ 900 ∧ r = nI (t + 20) ∧ TP 5 6 (f20 f t v1 v2 v3 v4 v5) (t + 20) a v0 T) ∨ (900 < t + 20 ∧ r = -1 ∧ TP 5 6 (f20 f t v1 v2 v3 v4 v5) t a v0 T))))) hI o_v0 P ht (fun r T h0 h1 h2 h3 h4 => ⟨h0, h1, h2, h3, h4⟩))) (fun r T a b => ⟨a.1, a.2, b.2⟩)) (fun r T a b => ⟨a.1, a.2, b.2⟩)) (cm_X11_feed (Q3 := fun r T => (IV T ∧ Gr S T ∧ (FRI [(11, 0), (11, 6)] [] S T) ∧ (((900 < fI S v0 6 + 20 → r = -1 ∧ fI T v0 6 = fI S v0 6) ∧ (fI S v0 6 + 20 ≤ 900 → r = fI T v0 6 ∧ fI T v0 6 = fI S v0 6 + 20))) ∧ ((FT [0, 6] a v0 S T ∧ ((t + 20 ≤ 900 ∧ r = nI (t + 20) ∧ TP 5 6 (f20 f t v1 v2 v3 v4 v5) (t + 20) a v0 T) ∨ (900 < t + 20 ∧ r = -1 ∧ TP 5 6 (f20 f t v1 v2 v3 v4 v5) t a v0 T))))) ∧ (KJ LWJ S T ∧ K9 false LWL S T)) (kj_X11_feed (L := LWJ) (by decide) (by decide) (ml_X11_feed (Q := fun r T => IV T ∧ Gr S T ∧ (FRI [(11, 0), (11, 6)] [] S T) ∧ (((900 < fI S v0 6 + 20 → r = -1 ∧ fI T v0 6 = fI S v0 6) ∧ (fI S v0 6 + 20 ≤ 900 → r = fI T v0 6 ∧ fI T v0 6 = fI S v0 6 + 20))) ∧ ((FT [0, 6] a v0 S T ∧ ((t + 20 ≤ 900 ∧ r = nI (t + 20) ∧ TP 5 6 (f20 f t v1 v2 v3 v4 v5) (t + 20) a v0 T) ∨ (900 < t + 20 ∧ r = -1 ∧ TP 5 6 (f20 f t v1 v2 v3 v4 v5) t a v0 T))))) hI o_v0 P ht (fun r T h0 h1 h2 h3 h4 => ⟨h0, h1, h2, h3, h4⟩))) (ky_X11_feed (b := false) (L := LWL) (by decide) (by decide) (fun _ => rfl) (ml_X11_feed (Q := fun r T => IV T ∧ Gr S T ∧ (FRI [(11, 0), (11, 6)] [] S T) ∧ (((900 < fI S v0 6 + 20 → r = -1 ∧ fI T v0 6 = fI S v0 6) ∧ (fI S v0 6 + 20 ≤ 900 → r = fI T v0 6 ∧ fI T v0 6 = fI S v0 6 + 20))) ∧ ((FT [0, 6] a v0 S T ∧ ((t + 20 ≤ 900 ∧ r = nI (t + 20) ∧ TP 5 6 (f20 f t v1 v2 v3 v4 v5) (t + 20) a v0 T) ∨ (900 < t + 20 ∧ r = -1 ∧ TP 5 6 (f20 f t v1 v2 v3 v4 v5) t a v0 T))))) hI o_v0 P ht (fun r T h0 h1 h2 h3 h4 => ⟨h0, h1, h2, h3, h4⟩))) (fun r T a b => ⟨a.1, a.2, b.2⟩)) (fun r T a b => ⟨a.1, a.2, b.2⟩)) (ml_X11_feed (Q := fun r T => IV T ∧ Gr S T ∧ (FRI [(11, 0), (11, 6)] [] S T) ∧ (((900 < fI S v0 6 + 20 → r = -1 ∧ fI T v0 6 = fI S v0 6) ∧ (fI S v0 6 + 20 ≤ 900 → r = fI T v0 6 ∧ fI T v0 6 = fI S v0 6 + 20))) ∧ ((FT [0, 6] a v0 S T ∧ ((t + 20 ≤ 900 ∧ r = nI (t + 20) ∧ TP 5 6 (f20 f t v1 v2 v3 v4 v5) (t + 20) a v0 T) ∨ (900 < t + 20 ∧ r = -1 ∧ TP 5 6 (f20 f t v1 v2 v3 v4 v5) t a v0 T))))) hI o_v0 P ht (fun r T h0 h1 h2 h3 h4 => ⟨h0, h1, h2, h3, h4⟩)) (fun r T h _ => hq r T h.1.1 h.1.2.1 h.1.2.2.1 h.1.2.2.2.1 h.1.2.2.2.2 h.2)
theorem mz_X11_first {v0 : Nat} {v1 : Int32} {v2 : Int32} {v3 : Int32} {v4 : Int32} {v5 : Int32} {v6 : Int32} {Q : Int32 → HS → Prop} {S : HS} (hI : IV S) (o_v0 : ob S v0 11)  (hq : ∀ (r : Int32) (T : HS), IV T → Gr S T → FRI [(11, 0), (11, 1), (11, 2)] [] S T → K2 S T → (NFq 11 2 c11 v0 T) → (((K7 S T ∧ K8 S T) ∧ (K9 false LA S T ∧ K9 true LB S T)) ∧ (KJ LWJ S T ∧ K9 false LWL S T)) → Q r T) : P_X11_first v0 v1 v2 v3 v4 v5 v6 Q S := cm_X11_first (cm_X11_first (Q3 := fun r T => (IV T ∧ Gr S T ∧ (FRI [(11, 0), (11, 1), (11, 2)] [] S T) ∧ K2 S T ∧ ((NFq 11 2 c11 v0 T))) ∧ ((K7 S T ∧ K8 S T) ∧ (K9 false LA S T ∧ K9 true LB S T)) ∧ (KJ LWJ S T ∧ K9 false LWL S T)) (cm_X11_first (Q3 := fun r T => (IV T ∧ Gr S T ∧ (FRI [(11, 0), (11, 1), (11, 2)] [] S T) ∧ K2 S T ∧ ((NFq 11 2 c11 v0 T))) ∧ (K7 S T ∧ K8 S T) ∧ (K9 false LA S T ∧ K9 true LB S T)) (cm_X11_first (Q3 := fun r T => (IV T ∧ Gr S T ∧ (FRI [(11, 0), (11, 1), (11, 2)] [] S T) ∧ K2 S T ∧ ((NFq 11 2 c11 v0 T))) ∧ K7 S T ∧ K8 S T) (kw_X11_first (mn_X11_first (Q := fun r T => IV T ∧ Gr S T ∧ (FRI [(11, 0), (11, 1), (11, 2)] [] S T) ∧ K2 S T ∧ ((NFq 11 2 c11 v0 T))) hI o_v0 (fun r T h0 h1 h2 h3 h4 => ⟨h0, h1, h2, h3, h4⟩))) (kx_X11_first (mn_X11_first (Q := fun r T => IV T ∧ Gr S T ∧ (FRI [(11, 0), (11, 1), (11, 2)] [] S T) ∧ K2 S T ∧ ((NFq 11 2 c11 v0 T))) hI o_v0 (fun r T h0 h1 h2 h3 h4 => ⟨h0, h1, h2, h3, h4⟩))) (fun r T a b => ⟨a.1, a.2, b.2⟩)) (cm_X11_first (Q3 := fun r T => (IV T ∧ Gr S T ∧ (FRI [(11, 0), (11, 1), (11, 2)] [] S T) ∧ K2 S T ∧ ((NFq 11 2 c11 v0 T))) ∧ (K9 false LA S T ∧ K9 true LB S T)) (ky_X11_first (b := false) (L := LA) (by decide) (by decide) (fun _ => rfl) (mn_X11_first (Q := fun r T => IV T ∧ Gr S T ∧ (FRI [(11, 0), (11, 1), (11, 2)] [] S T) ∧ K2 S T ∧ ((NFq 11 2 c11 v0 T))) hI o_v0 (fun r T h0 h1 h2 h3 h4 => ⟨h0, h1, h2, h3, h4⟩))) (ky_X11_first (b := true) (L := LB) (by decide) (by decide) (fun z => z.elim) (mn_X11_first (Q := fun r T => IV T ∧ Gr S T ∧ (FRI [(11, 0), (11, 1), (11, 2)] [] S T) ∧ K2 S T ∧ ((NFq 11 2 c11 v0 T))) hI o_v0 (fun r T h0 h1 h2 h3 h4 => ⟨h0, h1, h2, h3, h4⟩))) (fun r T a b => ⟨a.1, a.2, b.2⟩)) (fun r T a b => ⟨a.1, a.2, b.2⟩)) (cm_X11_first (Q3 := fun r T => (IV T ∧ Gr S T ∧ (FRI [(11, 0), (11, 1), (11, 2)] [] S T) ∧ K2 S T ∧ ((NFq 11 2 c11 v0 T))) ∧ (KJ LWJ S T ∧ K9 false LWL S T)) (kj_X11_first (L := LWJ) (by decide) (by decide) (mn_X11_first (Q := fun r T => IV T ∧ Gr S T ∧ (FRI [(11, 0), (11, 1), (11, 2)] [] S T) ∧ K2 S T ∧ ((NFq 11 2 c11 v0 T))) hI o_v0 (fun r T h0 h1 h2 h3 h4 => ⟨h0, h1, h2, h3, h4⟩))) (ky_X11_first (b := false) (L := LWL) (by decide) (by decide) (fun _ => rfl) (mn_X11_first (Q := fun r T => IV T ∧ Gr S T ∧ (FRI [(11, 0), (11, 1), (11, 2)] [] S T) ∧ K2 S T ∧ ((NFq 11 2 c11 v0 T))) hI o_v0 (fun r T h0 h1 h2 h3 h4 => ⟨h0, h1, h2, h3, h4⟩))) (fun r T a b => ⟨a.1, a.2, b.2⟩)) (fun r T a b => ⟨a.1, a.2, b.2⟩)) (mn_X11_first (Q := fun r T => IV T ∧ Gr S T ∧ (FRI [(11, 0), (11, 1), (11, 2)] [] S T) ∧ K2 S T ∧ ((NFq 11 2 c11 v0 T))) hI o_v0 (fun r T h0 h1 h2 h3 h4 => ⟨h0, h1, h2, h3, h4⟩)) (fun r T h _ => hq r T h.1.1 h.1.2.1 h.1.2.2.1 h.1.2.2.2.1 h.1.2.2.2.2 h.2)
theorem mz_X11_fit {v0 : Nat} {v1 : Int32} {v2 : Int32} {Q : Int32 → HS → Prop} {S : HS} (hI : IV S) (o_v0 : ob S v0 11)  (hq : ∀ (r : Int32) (T : HS), IV T → Gr S T → FRI [(11, 0), (11, 1), (11, 2)] [] S T → K2 S T → (NFq 11 2 c11 v0 T) → (((K7 S T ∧ K8 S T) ∧ (K9 false LA S T ∧ K9 true LB S T)) ∧ (KJ LWJ S T ∧ K9 false LWL S T)) → Q r T) : P_X11_fit v0 v1 v2 Q S := cm_X11_fit (cm_X11_fit (Q3 := fun r T => (IV T ∧ Gr S T ∧ (FRI [(11, 0), (11, 1), (11, 2)] [] S T) ∧ K2 S T ∧ ((NFq 11 2 c11 v0 T))) ∧ ((K7 S T ∧ K8 S T) ∧ (K9 false LA S T ∧ K9 true LB S T)) ∧ (KJ LWJ S T ∧ K9 false LWL S T)) (cm_X11_fit (Q3 := fun r T => (IV T ∧ Gr S T ∧ (FRI [(11, 0), (11, 1), (11, 2)] [] S T) ∧ K2 S T ∧ ((NFq 11 2 c11 v0 T))) ∧ (K7 S T ∧ K8 S T) ∧ (K9 false LA S T ∧ K9 true LB S T)) (cm_X11_fit (Q3 := fun r T => (IV T ∧ Gr S T ∧ (FRI [(11, 0), (11, 1), (11, 2)] [] S T) ∧ K2 S T ∧ ((NFq 11 2 c11 v0 T))) ∧ K7 S T ∧ K8 S T) (kw_X11_fit (mn_X11_fit (Q := fun r T => IV T ∧ Gr S T ∧ (FRI [(11, 0), (11, 1), (11, 2)] [] S T) ∧ K2 S T ∧ ((NFq 11 2 c11 v0 T))) hI o_v0 (fun r T h0 h1 h2 h3 h4 => ⟨h0, h1, h2, h3, h4⟩))) (kx_X11_fit (mn_X11_fit (Q := fun r T => IV T ∧ Gr S T ∧ (FRI [(11, 0), (11, 1), (11, 2)] [] S T) ∧ K2 S T ∧ ((NFq 11 2 c11 v0 T))) hI o_v0 (fun r T h0 h1 h2 h3 h4 => ⟨h0, h1, h2, h3, h4⟩))) (fun r T a b => ⟨a.1, a.2, b.2⟩)) (cm_X11_fit (Q3 := fun r T => (IV T ∧ Gr S T ∧ (FRI [(11, 0), (11, 1), (11, 2)] [] S T) ∧ K2 S T ∧ ((NFq 11 2 c11 v0 T))) ∧ (K9 false LA S T ∧ K9 true LB S T)) (ky_X11_fit (b := false) (L := LA) (by decide) (by decide) (fun _ => rfl) (mn_X11_fit (Q := fun r T => IV T ∧ Gr S T ∧ (FRI [(11, 0), (11, 1), (11, 2)] [] S T) ∧ K2 S T ∧ ((NFq 11 2 c11 v0 T))) hI o_v0 (fun r T h0 h1 h2 h3 h4 => ⟨h0, h1, h2, h3, h4⟩))) (ky_X11_fit (b := true) (L := LB) (by decide) (by decide) (fun z => z.elim) (mn_X11_fit (Q := fun r T => IV T ∧ Gr S T ∧ (FRI [(11, 0), (11, 1), (11, 2)] [] S T) ∧ K2 S T ∧ ((NFq 11 2 c11 v0 T))) hI o_v0 (fun r T h0 h1 h2 h3 h4 => ⟨h0, h1, h2, h3, h4⟩))) (fun r T a b => ⟨a.1, a.2, b.2⟩)) (fun r T a b => ⟨a.1, a.2, b.2⟩)) (cm_X11_fit (Q3 := fun r T => (IV T ∧ Gr S T ∧ (FRI [(11, 0), (11, 1), (11, 2)] [] S T) ∧ K2 S T ∧ ((NFq 11 2 c11 v0 T))) ∧ (KJ LWJ S T ∧ K9 false LWL S T)) (kj_X11_fit (L := LWJ) (by decide) (by decide) (mn_X11_fit (Q := fun r T => IV T ∧ Gr S T ∧ (FRI [(11, 0), (11, 1), (11, 2)] [] S T) ∧ K2 S T ∧ ((NFq 11 2 c11 v0 T))) hI o_v0 (fun r T h0 h1 h2 h3 h4 => ⟨h0, h1, h2, h3, h4⟩))) (ky_X11_fit (b := false) (L := LWL) (by decide) (by decide) (fun _ => rfl) (mn_X11_fit (Q := fun r T => IV T ∧ Gr S T ∧ (FRI [(11, 0), (11, 1), (11, 2)] [] S T) ∧ K2 S T ∧ ((NFq 11 2 c11 v0 T))) hI o_v0 (fun r T h0 h1 h2 h3 h4 => ⟨h0, h1, h2, h3, h4⟩))) (fun r T a b => ⟨a.1, a.2, b.2⟩)) (fun r T a b => ⟨a.1, a.2, b.2⟩)) (mn_X11_fit (Q := fun r T => IV T ∧ Gr S T ∧ (FRI [(11, 0), (11, 1), (11, 2)] [] S T) ∧ K2 S T ∧ ((NFq 11 2 c11 v0 T))) hI o_v0 (fun r T h0 h1 h2 h3 h4 => ⟨h0, h1, h2, h3, h4⟩)) (fun r T h _ => hq r T h.1.1 h.1.2.1 h.1.2.2.1 h.1.2.2.2.1 h.1.2.2.2.2 h.2)
theorem mz_X11_fits {v0 : Nat} {v1 : Int32} {Q : Int32 → HS → Prop} {S : HS} (hI : IV S) (o_v0 : ob S v0 11)  (hq : ∀ (r : Int32) (T : HS), IV T → Gr S T → FRI [(11, 0), (11, 1), (11, 2)] [] S T → K2 S T → (NFq 11 2 c11 v0 T) → (((K7 S T ∧ K8 S T) ∧ (K9 false LA S T ∧ K9 true LB S T)) ∧ (KJ LWJ S T ∧ K9 false LWL S T)) → Q r T) : P_X11_fits v0 v1 Q S := cm_X11_fits (cm_X11_fits (Q3 := fun r T => (IV T ∧ Gr S T ∧ (FRI [(11, 0), (11, 1), (11, 2)] [] S T) ∧ K2 S T ∧ ((NFq 11 2 c11 v0 T))) ∧ ((K7 S T ∧ K8 S T) ∧ (K9 false LA S T ∧ K9 true LB S T)) ∧ (KJ LWJ S T ∧ K9 false LWL S T)) (cm_X11_fits (Q3 := fun r T => (IV T ∧ Gr S T ∧ (FRI [(11, 0), (11, 1), (11, 2)] [] S T) ∧ K2 S T ∧ ((NFq 11 2 c11 v0 T))) ∧ (K7 S T ∧ K8 S T) ∧ (K9 false LA S T ∧ K9 true LB S T)) (cm_X11_fits (Q3 := fun r T => (IV T ∧ Gr S T ∧ (FRI [(11, 0), (11, 1), (11, 2)] [] S T) ∧ K2 S T ∧ ((NFq 11 2 c11 v0 T))) ∧ K7 S T ∧ K8 S T) (kw_X11_fits (mn_X11_fits (Q := fun r T => IV T ∧ Gr S T ∧ (FRI [(11, 0), (11, 1), (11, 2)] [] S T) ∧ K2 S T ∧ ((NFq 11 2 c11 v0 T))) hI o_v0 (fun r T h0 h1 h2 h3 h4 => ⟨h0, h1, h2, h3, h4⟩))) (kx_X11_fits (mn_X11_fits (Q := fun r T => IV T ∧ Gr S T ∧ (FRI [(11, 0), (11, 1), (11, 2)] [] S T) ∧ K2 S T ∧ ((NFq 11 2 c11 v0 T))) hI o_v0 (fun r T h0 h1 h2 h3 h4 => ⟨h0, h1, h2, h3, h4⟩))) (fun r T a b => ⟨a.1, a.2, b.2⟩)) (cm_X11_fits (Q3 := fun r T => (IV T ∧ Gr S T ∧ (FRI [(11, 0), (11, 1), (11, 2)] [] S T) ∧ K2 S T ∧ ((NFq 11 2 c11 v0 T))) ∧ (K9 false LA S T ∧ K9 true LB S T)) (ky_X11_fits (b := false) (L := LA) (by decide) (by decide) (fun _ => rfl) (mn_X11_fits (Q := fun r T => IV T ∧ Gr S T ∧ (FRI [(11, 0), (11, 1), (11, 2)] [] S T) ∧ K2 S T ∧ ((NFq 11 2 c11 v0 T))) hI o_v0 (fun r T h0 h1 h2 h3 h4 => ⟨h0, h1, h2, h3, h4⟩))) (ky_X11_fits (b := true) (L := LB) (by decide) (by decide) (fun z => z.elim) (mn_X11_fits (Q := fun r T => IV T ∧ Gr S T ∧ (FRI [(11, 0), (11, 1), (11, 2)] [] S T) ∧ K2 S T ∧ ((NFq 11 2 c11 v0 T))) hI o_v0 (fun r T h0 h1 h2 h3 h4 => ⟨h0, h1, h2, h3, h4⟩))) (fun r T a b => ⟨a.1, a.2, b.2⟩)) (fun r T a b => ⟨a.1, a.2, b.2⟩)) (cm_X11_fits (Q3 := fun r T => (IV T ∧ Gr S T ∧ (FRI [(11, 0), (11, 1), (11, 2)] [] S T) ∧ K2 S T ∧ ((NFq 11 2 c11 v0 T))) ∧ (KJ LWJ S T ∧ K9 false LWL S T)) (kj_X11_fits (L := LWJ) (by decide) (by decide) (mn_X11_fits (Q := fun r T => IV T ∧ Gr S T ∧ (FRI [(11, 0), (11, 1), (11, 2)] [] S T) ∧ K2 S T ∧ ((NFq 11 2 c11 v0 T))) hI o_v0 (fun r T h0 h1 h2 h3 h4 => ⟨h0, h1, h2, h3, h4⟩))) (ky_X11_fits (b := false) (L := LWL) (by decide) (by decide) (fun _ => rfl) (mn_X11_fits (Q := fun r T => IV T ∧ Gr S T ∧ (FRI [(11, 0), (11, 1), (11, 2)] [] S T) ∧ K2 S T ∧ ((NFq 11 2 c11 v0 T))) hI o_v0 (fun r T h0 h1 h2 h3 h4 => ⟨h0, h1, h2, h3, h4⟩))) (fun r T a b => ⟨a.1, a.2, b.2⟩)) (fun r T a b => ⟨a.1, a.2, b.2⟩)) (mn_X11_fits (Q := fun r T => IV T ∧ Gr S T ∧ (FRI [(11, 0), (11, 1), (11, 2)] [] S T) ∧ K2 S T ∧ ((NFq 11 2 c11 v0 T))) hI o_v0 (fun r T h0 h1 h2 h3 h4 => ⟨h0, h1, h2, h3, h4⟩)) (fun r T h _ => hq r T h.1.1 h.1.2.1 h.1.2.2.1 h.1.2.2.2.1 h.1.2.2.2.2 h.2)
theorem mt_X11_go {v0 : Nat} {v1 : Int32} {v2 : Int32} {v3 : Int32} {Q : Int32 → HS → Prop} {S : HS} (hI : IV S) (o_v0 : ob S v0 11) {A : AS} {G : GC} (hm : (fR S v0 3 = none ∧ A = A00) ∨ ∃ rd, WRm v0 rd A G S) (ab : ABd A) (gb : GBd A G) {D : DY} (md : MDd v0 D S) (db : DBd A D) (hq : ∀ (r : Int32) (T : HS), IV T → Gr S T → FRI [(11, 0), (11, 1), (11, 2), (11, 24)] [] S T → K2 S T → (NFq 11 2 c11 v0 T) → ((((K7 S T ∧ K8 S T) ∧ K9 true LB S T) ∧ (KJ LWJ S T ∧ K9 false LWL S T)) ∧ r = tellgo A G D v1 v2 v3 ∧ MDd v0 (nxgo A G D v1 v2 v3) T) → Q r T) : P_X11_go v0 v1 v2 v3 Q S := cm_X11_go (cm_X11_go (Q3 := fun r T => (IV T ∧ Gr S T ∧ (FRI [(11, 0), (11, 1), (11, 2), (11, 24)] [] S T) ∧ K2 S T ∧ ((NFq 11 2 c11 v0 T))) ∧ (((K7 S T ∧ K8 S T) ∧ K9 true LB S T) ∧ (KJ LWJ S T ∧ K9 false LWL S T)) ∧ r = tellgo A G D v1 v2 v3 ∧ MDd v0 (nxgo A G D v1 v2 v3) T) (cm_X11_go (Q3 := fun r T => (IV T ∧ Gr S T ∧ (FRI [(11, 0), (11, 1), (11, 2), (11, 24)] [] S T) ∧ K2 S T ∧ ((NFq 11 2 c11 v0 T))) ∧ ((K7 S T ∧ K8 S T) ∧ K9 true LB S T) ∧ (KJ LWJ S T ∧ K9 false LWL S T)) (cm_X11_go (Q3 := fun r T => (IV T ∧ Gr S T ∧ (FRI [(11, 0), (11, 1), (11, 2), (11, 24)] [] S T) ∧ K2 S T ∧ ((NFq 11 2 c11 v0 T))) ∧ (K7 S T ∧ K8 S T) ∧ K9 true LB S T) (cm_X11_go (Q3 := fun r T => (IV T ∧ Gr S T ∧ (FRI [(11, 0), (11, 1), (11, 2), (11, 24)] [] S T) ∧ K2 S T ∧ ((NFq 11 2 c11 v0 T))) ∧ K7 S T ∧ K8 S T) (kw_X11_go (mn_X11_go (Q := fun r T => IV T ∧ Gr S T ∧ (FRI [(11, 0), (11, 1), (11, 2), (11, 24)] [] S T) ∧ K2 S T ∧ ((NFq 11 2 c11 v0 T))) hI o_v0 (fun r T h0 h1 h2 h3 h4 => ⟨h0, h1, h2, h3, h4⟩))) (kx_X11_go (mn_X11_go (Q := fun r T => IV T ∧ Gr S T ∧ (FRI [(11, 0), (11, 1), (11, 2), (11, 24)] [] S T) ∧ K2 S T ∧ ((NFq 11 2 c11 v0 T))) hI o_v0 (fun r T h0 h1 h2 h3 h4 => ⟨h0, h1, h2, h3, h4⟩))) (fun r T a b => ⟨a.1, a.2, b.2⟩)) (ky_X11_go (b := true) (L := LB) (by decide) (by decide) (fun z => z.elim) (mn_X11_go (Q := fun r T => IV T ∧ Gr S T ∧ (FRI [(11, 0), (11, 1), (11, 2), (11, 24)] [] S T) ∧ K2 S T ∧ ((NFq 11 2 c11 v0 T))) hI o_v0 (fun r T h0 h1 h2 h3 h4 => ⟨h0, h1, h2, h3, h4⟩))) (fun r T a b => ⟨a.1, a.2, b.2⟩)) (cm_X11_go (Q3 := fun r T => (IV T ∧ Gr S T ∧ (FRI [(11, 0), (11, 1), (11, 2), (11, 24)] [] S T) ∧ K2 S T ∧ ((NFq 11 2 c11 v0 T))) ∧ (KJ LWJ S T ∧ K9 false LWL S T)) (kj_X11_go (L := LWJ) (by decide) (by decide) (mn_X11_go (Q := fun r T => IV T ∧ Gr S T ∧ (FRI [(11, 0), (11, 1), (11, 2), (11, 24)] [] S T) ∧ K2 S T ∧ ((NFq 11 2 c11 v0 T))) hI o_v0 (fun r T h0 h1 h2 h3 h4 => ⟨h0, h1, h2, h3, h4⟩))) (ky_X11_go (b := false) (L := LWL) (by decide) (by decide) (fun _ => rfl) (mn_X11_go (Q := fun r T => IV T ∧ Gr S T ∧ (FRI [(11, 0), (11, 1), (11, 2), (11, 24)] [] S T) ∧ K2 S T ∧ ((NFq 11 2 c11 v0 T))) hI o_v0 (fun r T h0 h1 h2 h3 h4 => ⟨h0, h1, h2, h3, h4⟩))) (fun r T a b => ⟨a.1, a.2, b.2⟩)) (fun r T a b => ⟨a.1, a.2, b.2⟩)) (tl_X11_go hI hm ab gb md db (mn_X11_go (Q := fun r T => IV T ∧ Gr S T ∧ (FRI [(11, 0), (11, 1), (11, 2), (11, 24)] [] S T) ∧ K2 S T ∧ ((NFq 11 2 c11 v0 T))) hI o_v0 (fun r T h0 h1 h2 h3 h4 => ⟨h0, h1, h2, h3, h4⟩))) (fun r T a b => ⟨a.1, a.2, b.2⟩)) (mn_X11_go (Q := fun r T => IV T ∧ Gr S T ∧ (FRI [(11, 0), (11, 1), (11, 2), (11, 24)] [] S T) ∧ K2 S T ∧ ((NFq 11 2 c11 v0 T))) hI o_v0 (fun r T h0 h1 h2 h3 h4 => ⟨h0, h1, h2, h3, h4⟩)) (fun r T h _ => hq r T h.1.1 h.1.2.1 h.1.2.2.1 h.1.2.2.2.1 h.1.2.2.2.2 h.2)
theorem mz_X11_got {v0 : Nat} {v1 : Int32} {v2 : Int32} {Q : Int64 → HS → Prop} {S : HS} (hI : IV S) (o_v0 : ob S v0 11)  (hq : ∀ (r : Int64) (T : HS), IV T → Gr S T → FRI [(11, 0), (11, 1), (11, 2)] [] S T → K2 S T → (NFq 11 2 c11 v0 T) → (((K7 S T ∧ K8 S T) ∧ (K9 false LA S T ∧ K9 true LB S T)) ∧ (KJ LWJ S T ∧ K9 false LWL S T)) → Q r T) : P_X11_got v0 v1 v2 Q S := cm_X11_got (cm_X11_got (Q3 := fun r T => (IV T ∧ Gr S T ∧ (FRI [(11, 0), (11, 1), (11, 2)] [] S T) ∧ K2 S T ∧ ((NFq 11 2 c11 v0 T))) ∧ ((K7 S T ∧ K8 S T) ∧ (K9 false LA S T ∧ K9 true LB S T)) ∧ (KJ LWJ S T ∧ K9 false LWL S T)) (cm_X11_got (Q3 := fun r T => (IV T ∧ Gr S T ∧ (FRI [(11, 0), (11, 1), (11, 2)] [] S T) ∧ K2 S T ∧ ((NFq 11 2 c11 v0 T))) ∧ (K7 S T ∧ K8 S T) ∧ (K9 false LA S T ∧ K9 true LB S T)) (cm_X11_got (Q3 := fun r T => (IV T ∧ Gr S T ∧ (FRI [(11, 0), (11, 1), (11, 2)] [] S T) ∧ K2 S T ∧ ((NFq 11 2 c11 v0 T))) ∧ K7 S T ∧ K8 S T) (kw_X11_got (mn_X11_got (Q := fun r T => IV T ∧ Gr S T ∧ (FRI [(11, 0), (11, 1), (11, 2)] [] S T) ∧ K2 S T ∧ ((NFq 11 2 c11 v0 T))) hI o_v0 (fun r T h0 h1 h2 h3 h4 => ⟨h0, h1, h2, h3, h4⟩))) (kx_X11_got (mn_X11_got (Q := fun r T => IV T ∧ Gr S T ∧ (FRI [(11, 0), (11, 1), (11, 2)] [] S T) ∧ K2 S T ∧ ((NFq 11 2 c11 v0 T))) hI o_v0 (fun r T h0 h1 h2 h3 h4 => ⟨h0, h1, h2, h3, h4⟩))) (fun r T a b => ⟨a.1, a.2, b.2⟩)) (cm_X11_got (Q3 := fun r T => (IV T ∧ Gr S T ∧ (FRI [(11, 0), (11, 1), (11, 2)] [] S T) ∧ K2 S T ∧ ((NFq 11 2 c11 v0 T))) ∧ (K9 false LA S T ∧ K9 true LB S T)) (ky_X11_got (b := false) (L := LA) (by decide) (by decide) (fun _ => rfl) (mn_X11_got (Q := fun r T => IV T ∧ Gr S T ∧ (FRI [(11, 0), (11, 1), (11, 2)] [] S T) ∧ K2 S T ∧ ((NFq 11 2 c11 v0 T))) hI o_v0 (fun r T h0 h1 h2 h3 h4 => ⟨h0, h1, h2, h3, h4⟩))) (ky_X11_got (b := true) (L := LB) (by decide) (by decide) (fun z => z.elim) (mn_X11_got (Q := fun r T => IV T ∧ Gr S T ∧ (FRI [(11, 0), (11, 1), (11, 2)] [] S T) ∧ K2 S T ∧ ((NFq 11 2 c11 v0 T))) hI o_v0 (fun r T h0 h1 h2 h3 h4 => ⟨h0, h1, h2, h3, h4⟩))) (fun r T a b => ⟨a.1, a.2, b.2⟩)) (fun r T a b => ⟨a.1, a.2, b.2⟩)) (cm_X11_got (Q3 := fun r T => (IV T ∧ Gr S T ∧ (FRI [(11, 0), (11, 1), (11, 2)] [] S T) ∧ K2 S T ∧ ((NFq 11 2 c11 v0 T))) ∧ (KJ LWJ S T ∧ K9 false LWL S T)) (kj_X11_got (L := LWJ) (by decide) (by decide) (mn_X11_got (Q := fun r T => IV T ∧ Gr S T ∧ (FRI [(11, 0), (11, 1), (11, 2)] [] S T) ∧ K2 S T ∧ ((NFq 11 2 c11 v0 T))) hI o_v0 (fun r T h0 h1 h2 h3 h4 => ⟨h0, h1, h2, h3, h4⟩))) (ky_X11_got (b := false) (L := LWL) (by decide) (by decide) (fun _ => rfl) (mn_X11_got (Q := fun r T => IV T ∧ Gr S T ∧ (FRI [(11, 0), (11, 1), (11, 2)] [] S T) ∧ K2 S T ∧ ((NFq 11 2 c11 v0 T))) hI o_v0 (fun r T h0 h1 h2 h3 h4 => ⟨h0, h1, h2, h3, h4⟩))) (fun r T a b => ⟨a.1, a.2, b.2⟩)) (fun r T a b => ⟨a.1, a.2, b.2⟩)) (mn_X11_got (Q := fun r T => IV T ∧ Gr S T ∧ (FRI [(11, 0), (11, 1), (11, 2)] [] S T) ∧ K2 S T ∧ ((NFq 11 2 c11 v0 T))) hI o_v0 (fun r T h0 h1 h2 h3 h4 => ⟨h0, h1, h2, h3, h4⟩)) (fun r T h _ => hq r T h.1.1 h.1.2.1 h.1.2.2.1 h.1.2.2.2.1 h.1.2.2.2.2 h.2)
theorem mz_X11_held {v0 : Nat} {v1 : Int32} {v2 : Int32} {v3 : Int32} {v4 : Int32} {v5 : Int32} {Q : Int32 → HS → Prop} {S : HS} (hI : IV S) (o_v0 : ob S v0 11)  (hq : ∀ (r : Int32) (T : HS), IV T → Gr S T → FRI [(11, 0), (11, 1), (11, 2)] [] S T → K2 S T → (NFq 11 2 c11 v0 T) → (((K7 S T ∧ K8 S T) ∧ (K9 false LA S T ∧ K9 true LB S T)) ∧ (KJ LWJ S T ∧ K9 false LWL S T)) → Q r T) : P_X11_held v0 v1 v2 v3 v4 v5 Q S := cm_X11_held (cm_X11_held (Q3 := fun r T => (IV T ∧ Gr S T ∧ (FRI [(11, 0), (11, 1), (11, 2)] [] S T) ∧ K2 S T ∧ ((NFq 11 2 c11 v0 T))) ∧ ((K7 S T ∧ K8 S T) ∧ (K9 false LA S T ∧ K9 true LB S T)) ∧ (KJ LWJ S T ∧ K9 false LWL S T)) (cm_X11_held (Q3 := fun r T => (IV T ∧ Gr S T ∧ (FRI [(11, 0), (11, 1), (11, 2)] [] S T) ∧ K2 S T ∧ ((NFq 11 2 c11 v0 T))) ∧ (K7 S T ∧ K8 S T) ∧ (K9 false LA S T ∧ K9 true LB S T)) (cm_X11_held (Q3 := fun r T => (IV T ∧ Gr S T ∧ (FRI [(11, 0), (11, 1), (11, 2)] [] S T) ∧ K2 S T ∧ ((NFq 11 2 c11 v0 T))) ∧ K7 S T ∧ K8 S T) (kw_X11_held (mn_X11_held (Q := fun r T => IV T ∧ Gr S T ∧ (FRI [(11, 0), (11, 1), (11, 2)] [] S T) ∧ K2 S T ∧ ((NFq 11 2 c11 v0 T))) hI o_v0 (fun r T h0 h1 h2 h3 h4 => ⟨h0, h1, h2, h3, h4⟩))) (kx_X11_held (mn_X11_held (Q := fun r T => IV T ∧ Gr S T ∧ (FRI [(11, 0), (11, 1), (11, 2)] [] S T) ∧ K2 S T ∧ ((NFq 11 2 c11 v0 T))) hI o_v0 (fun r T h0 h1 h2 h3 h4 => ⟨h0, h1, h2, h3, h4⟩))) (fun r T a b => ⟨a.1, a.2, b.2⟩)) (cm_X11_held (Q3 := fun r T => (IV T ∧ Gr S T ∧ (FRI [(11, 0), (11, 1), (11, 2)] [] S T) ∧ K2 S T ∧ ((NFq 11 2 c11 v0 T))) ∧ (K9 false LA S T ∧ K9 true LB S T)) (ky_X11_held (b := false) (L := LA) (by decide) (by decide) (fun _ => rfl) (mn_X11_held (Q := fun r T => IV T ∧ Gr S T ∧ (FRI [(11, 0), (11, 1), (11, 2)] [] S T) ∧ K2 S T ∧ ((NFq 11 2 c11 v0 T))) hI o_v0 (fun r T h0 h1 h2 h3 h4 => ⟨h0, h1, h2, h3, h4⟩))) (ky_X11_held (b := true) (L := LB) (by decide) (by decide) (fun z => z.elim) (mn_X11_held (Q := fun r T => IV T ∧ Gr S T ∧ (FRI [(11, 0), (11, 1), (11, 2)] [] S T) ∧ K2 S T ∧ ((NFq 11 2 c11 v0 T))) hI o_v0 (fun r T h0 h1 h2 h3 h4 => ⟨h0, h1, h2, h3, h4⟩))) (fun r T a b => ⟨a.1, a.2, b.2⟩)) (fun r T a b => ⟨a.1, a.2, b.2⟩)) (cm_X11_held (Q3 := fun r T => (IV T ∧ Gr S T ∧ (FRI [(11, 0), (11, 1), (11, 2)] [] S T) ∧ K2 S T ∧ ((NFq 11 2 c11 v0 T))) ∧ (KJ LWJ S T ∧ K9 false LWL S T)) (kj_X11_held (L := LWJ) (by decide) (by decide) (mn_X11_held (Q := fun r T => IV T ∧ Gr S T ∧ (FRI [(11, 0), (11, 1), (11, 2)] [] S T) ∧ K2 S T ∧ ((NFq 11 2 c11 v0 T))) hI o_v0 (fun r T h0 h1 h2 h3 h4 => ⟨h0, h1, h2, h3, h4⟩))) (ky_X11_held (b := false) (L := LWL) (by decide) (by decide) (fun _ => rfl) (mn_X11_held (Q := fun r T => IV T ∧ Gr S T ∧ (FRI [(11, 0), (11, 1), (11, 2)] [] S T) ∧ K2 S T ∧ ((NFq 11 2 c11 v0 T))) hI o_v0 (fun r T h0 h1 h2 h3 h4 => ⟨h0, h1, h2, h3, h4⟩))) (fun r T a b => ⟨a.1, a.2, b.2⟩)) (fun r T a b => ⟨a.1, a.2, b.2⟩)) (mn_X11_held (Q := fun r T => IV T ∧ Gr S T ∧ (FRI [(11, 0), (11, 1), (11, 2)] [] S T) ∧ K2 S T ∧ ((NFq 11 2 c11 v0 T))) hI o_v0 (fun r T h0 h1 h2 h3 h4 => ⟨h0, h1, h2, h3, h4⟩)) (fun r T h _ => hq r T h.1.1 h.1.2.1 h.1.2.2.1 h.1.2.2.2.1 h.1.2.2.2.2 h.2)
theorem mz_X11_least {v0 : Nat} {v1 : Int32} {v2 : Int32} {v3 : Int32} {v4 : Int32} {v5 : Int32} {v6 : Int32} {Q : Int64 → HS → Prop} {S : HS} (hI : IV S) (o_v0 : ob S v0 11)  (hq : ∀ (r : Int64) (T : HS), IV T → Gr S T → FRI [(11, 0), (11, 1), (11, 2)] [] S T → K2 S T → (NFq 11 2 c11 v0 T) → (((K7 S T ∧ K8 S T) ∧ (K9 false LA S T ∧ K9 true LB S T)) ∧ (KJ LWJ S T ∧ K9 false LWL S T)) → Q r T) : P_X11_least v0 v1 v2 v3 v4 v5 v6 Q S := cm_X11_least (cm_X11_least (Q3 := fun r T => (IV T ∧ Gr S T ∧ (FRI [(11, 0), (11, 1), (11, 2)] [] S T) ∧ K2 S T ∧ ((NFq 11 2 c11 v0 T))) ∧ ((K7 S T ∧ K8 S T) ∧ (K9 false LA S T ∧ K9 true LB S T)) ∧ (KJ LWJ S T ∧ K9 false LWL S T)) (cm_X11_least (Q3 := fun r T => (IV T ∧ Gr S T ∧ (FRI [(11, 0), (11, 1), (11, 2)] [] S T) ∧ K2 S T ∧ ((NFq 11 2 c11 v0 T))) ∧ (K7 S T ∧ K8 S T) ∧ (K9 false LA S T ∧ K9 true LB S T)) (cm_X11_least (Q3 := fun r T => (IV T ∧ Gr S T ∧ (FRI [(11, 0), (11, 1), (11, 2)] [] S T) ∧ K2 S T ∧ ((NFq 11 2 c11 v0 T))) ∧ K7 S T ∧ K8 S T) (kw_X11_least (mn_X11_least (Q := fun r T => IV T ∧ Gr S T ∧ (FRI [(11, 0), (11, 1), (11, 2)] [] S T) ∧ K2 S T ∧ ((NFq 11 2 c11 v0 T))) hI o_v0 (fun r T h0 h1 h2 h3 h4 => ⟨h0, h1, h2, h3, h4⟩))) (kx_X11_least (mn_X11_least (Q := fun r T => IV T ∧ Gr S T ∧ (FRI [(11, 0), (11, 1), (11, 2)] [] S T) ∧ K2 S T ∧ ((NFq 11 2 c11 v0 T))) hI o_v0 (fun r T h0 h1 h2 h3 h4 => ⟨h0, h1, h2, h3, h4⟩))) (fun r T a b => ⟨a.1, a.2, b.2⟩)) (cm_X11_least (Q3 := fun r T => (IV T ∧ Gr S T ∧ (FRI [(11, 0), (11, 1), (11, 2)] [] S T) ∧ K2 S T ∧ ((NFq 11 2 c11 v0 T))) ∧ (K9 false LA S T ∧ K9 true LB S T)) (ky_X11_least (b := false) (L := LA) (by decide) (by decide) (fun _ => rfl) (mn_X11_least (Q := fun r T => IV T ∧ Gr S T ∧ (FRI [(11, 0), (11, 1), (11, 2)] [] S T) ∧ K2 S T ∧ ((NFq 11 2 c11 v0 T))) hI o_v0 (fun r T h0 h1 h2 h3 h4 => ⟨h0, h1, h2, h3, h4⟩))) (ky_X11_least (b := true) (L := LB) (by decide) (by decide) (fun z => z.elim) (mn_X11_least (Q := fun r T => IV T ∧ Gr S T ∧ (FRI [(11, 0), (11, 1), (11, 2)] [] S T) ∧ K2 S T ∧ ((NFq 11 2 c11 v0 T))) hI o_v0 (fun r T h0 h1 h2 h3 h4 => ⟨h0, h1, h2, h3, h4⟩))) (fun r T a b => ⟨a.1, a.2, b.2⟩)) (fun r T a b => ⟨a.1, a.2, b.2⟩)) (cm_X11_least (Q3 := fun r T => (IV T ∧ Gr S T ∧ (FRI [(11, 0), (11, 1), (11, 2)] [] S T) ∧ K2 S T ∧ ((NFq 11 2 c11 v0 T))) ∧ (KJ LWJ S T ∧ K9 false LWL S T)) (kj_X11_least (L := LWJ) (by decide) (by decide) (mn_X11_least (Q := fun r T => IV T ∧ Gr S T ∧ (FRI [(11, 0), (11, 1), (11, 2)] [] S T) ∧ K2 S T ∧ ((NFq 11 2 c11 v0 T))) hI o_v0 (fun r T h0 h1 h2 h3 h4 => ⟨h0, h1, h2, h3, h4⟩))) (ky_X11_least (b := false) (L := LWL) (by decide) (by decide) (fun _ => rfl) (mn_X11_least (Q := fun r T => IV T ∧ Gr S T ∧ (FRI [(11, 0), (11, 1), (11, 2)] [] S T) ∧ K2 S T ∧ ((NFq 11 2 c11 v0 T))) hI o_v0 (fun r T h0 h1 h2 h3 h4 => ⟨h0, h1, h2, h3, h4⟩))) (fun r T a b => ⟨a.1, a.2, b.2⟩)) (fun r T a b => ⟨a.1, a.2, b.2⟩)) (mn_X11_least (Q := fun r T => IV T ∧ Gr S T ∧ (FRI [(11, 0), (11, 1), (11, 2)] [] S T) ∧ K2 S T ∧ ((NFq 11 2 c11 v0 T))) hI o_v0 (fun r T h0 h1 h2 h3 h4 => ⟨h0, h1, h2, h3, h4⟩)) (fun r T h _ => hq r T h.1.1 h.1.2.1 h.1.2.2.1 h.1.2.2.2.1 h.1.2.2.2.2 h.2)
theorem mz_X11_led {v0 : Nat} {v1 : Int32} {Q : Int32 → HS → Prop} {S : HS} (hI : IV S) (o_v0 : ob S v0 11)  (hq : ∀ (r : Int32) (T : HS), IV T → Gr S T → FRI [(11, 0)] [] S T → K2 S T → (((K7 S T ∧ K8 S T) ∧ (K9 false LA S T ∧ K9 true LB S T)) ∧ (KJ LWJ S T ∧ K9 false LWL S T)) → Q r T) : P_X11_led v0 v1 Q S := cm_X11_led (cm_X11_led (Q3 := fun r T => (IV T ∧ Gr S T ∧ (FRI [(11, 0)] [] S T) ∧ K2 S T) ∧ ((K7 S T ∧ K8 S T) ∧ (K9 false LA S T ∧ K9 true LB S T)) ∧ (KJ LWJ S T ∧ K9 false LWL S T)) (cm_X11_led (Q3 := fun r T => (IV T ∧ Gr S T ∧ (FRI [(11, 0)] [] S T) ∧ K2 S T) ∧ (K7 S T ∧ K8 S T) ∧ (K9 false LA S T ∧ K9 true LB S T)) (cm_X11_led (Q3 := fun r T => (IV T ∧ Gr S T ∧ (FRI [(11, 0)] [] S T) ∧ K2 S T) ∧ K7 S T ∧ K8 S T) (kw_X11_led (mk_X11_led (Q := fun r T => IV T ∧ Gr S T ∧ (FRI [(11, 0)] [] S T) ∧ K2 S T) hI o_v0 (fun r T h0 h1 h2 h3 => ⟨h0, h1, h2, h3⟩))) (kx_X11_led (mk_X11_led (Q := fun r T => IV T ∧ Gr S T ∧ (FRI [(11, 0)] [] S T) ∧ K2 S T) hI o_v0 (fun r T h0 h1 h2 h3 => ⟨h0, h1, h2, h3⟩))) (fun r T a b => ⟨a.1, a.2, b.2⟩)) (cm_X11_led (Q3 := fun r T => (IV T ∧ Gr S T ∧ (FRI [(11, 0)] [] S T) ∧ K2 S T) ∧ (K9 false LA S T ∧ K9 true LB S T)) (ky_X11_led (b := false) (L := LA) (by decide) (by decide) (fun _ => rfl) (mk_X11_led (Q := fun r T => IV T ∧ Gr S T ∧ (FRI [(11, 0)] [] S T) ∧ K2 S T) hI o_v0 (fun r T h0 h1 h2 h3 => ⟨h0, h1, h2, h3⟩))) (ky_X11_led (b := true) (L := LB) (by decide) (by decide) (fun z => z.elim) (mk_X11_led (Q := fun r T => IV T ∧ Gr S T ∧ (FRI [(11, 0)] [] S T) ∧ K2 S T) hI o_v0 (fun r T h0 h1 h2 h3 => ⟨h0, h1, h2, h3⟩))) (fun r T a b => ⟨a.1, a.2, b.2⟩)) (fun r T a b => ⟨a.1, a.2, b.2⟩)) (cm_X11_led (Q3 := fun r T => (IV T ∧ Gr S T ∧ (FRI [(11, 0)] [] S T) ∧ K2 S T) ∧ (KJ LWJ S T ∧ K9 false LWL S T)) (kj_X11_led (L := LWJ) (by decide) (by decide) (mk_X11_led (Q := fun r T => IV T ∧ Gr S T ∧ (FRI [(11, 0)] [] S T) ∧ K2 S T) hI o_v0 (fun r T h0 h1 h2 h3 => ⟨h0, h1, h2, h3⟩))) (ky_X11_led (b := false) (L := LWL) (by decide) (by decide) (fun _ => rfl) (mk_X11_led (Q := fun r T => IV T ∧ Gr S T ∧ (FRI [(11, 0)] [] S T) ∧ K2 S T) hI o_v0 (fun r T h0 h1 h2 h3 => ⟨h0, h1, h2, h3⟩))) (fun r T a b => ⟨a.1, a.2, b.2⟩)) (fun r T a b => ⟨a.1, a.2, b.2⟩)) (mk_X11_led (Q := fun r T => IV T ∧ Gr S T ∧ (FRI [(11, 0)] [] S T) ∧ K2 S T) hI o_v0 (fun r T h0 h1 h2 h3 => ⟨h0, h1, h2, h3⟩)) (fun r T h _ => hq r T h.1.1 h.1.2.1 h.1.2.2.1 h.1.2.2.2 h.2)
theorem mz_X11_lee {v0 : Nat} {v1 : Int32} {v2 : Int32} {v3 : Int32} {v4 : Int32} {v5 : Int32} {v6 : Int32} {v7 : Int32} {Q : Int64 → HS → Prop} {S : HS} (hI : IV S) (o_v0 : ob S v0 11)  (hq : ∀ (r : Int64) (T : HS), IV T → Gr S T → FRI [(11, 0), (11, 1), (11, 2)] [] S T → K2 S T → (NFq 11 2 c11 v0 T) → (((K7 S T ∧ K8 S T) ∧ (K9 false LA S T ∧ K9 true LB S T)) ∧ (KJ LWJ S T ∧ K9 false LWL S T)) → Q r T) : P_X11_lee v0 v1 v2 v3 v4 v5 v6 v7 Q S := cm_X11_lee (cm_X11_lee (Q3 := fun r T => (IV T ∧ Gr S T ∧ (FRI [(11, 0), (11, 1), (11, 2)] [] S T) ∧ K2 S T ∧ ((NFq 11 2 c11 v0 T))) ∧ ((K7 S T ∧ K8 S T) ∧ (K9 false LA S T ∧ K9 true LB S T)) ∧ (KJ LWJ S T ∧ K9 false LWL S T)) (cm_X11_lee (Q3 := fun r T => (IV T ∧ Gr S T ∧ (FRI [(11, 0), (11, 1), (11, 2)] [] S T) ∧ K2 S T ∧ ((NFq 11 2 c11 v0 T))) ∧ (K7 S T ∧ K8 S T) ∧ (K9 false LA S T ∧ K9 true LB S T)) (cm_X11_lee (Q3 := fun r T => (IV T ∧ Gr S T ∧ (FRI [(11, 0), (11, 1), (11, 2)] [] S T) ∧ K2 S T ∧ ((NFq 11 2 c11 v0 T))) ∧ K7 S T ∧ K8 S T) (kw_X11_lee (mn_X11_lee (Q := fun r T => IV T ∧ Gr S T ∧ (FRI [(11, 0), (11, 1), (11, 2)] [] S T) ∧ K2 S T ∧ ((NFq 11 2 c11 v0 T))) hI o_v0 (fun r T h0 h1 h2 h3 h4 => ⟨h0, h1, h2, h3, h4⟩))) (kx_X11_lee (mn_X11_lee (Q := fun r T => IV T ∧ Gr S T ∧ (FRI [(11, 0), (11, 1), (11, 2)] [] S T) ∧ K2 S T ∧ ((NFq 11 2 c11 v0 T))) hI o_v0 (fun r T h0 h1 h2 h3 h4 => ⟨h0, h1, h2, h3, h4⟩))) (fun r T a b => ⟨a.1, a.2, b.2⟩)) (cm_X11_lee (Q3 := fun r T => (IV T ∧ Gr S T ∧ (FRI [(11, 0), (11, 1), (11, 2)] [] S T) ∧ K2 S T ∧ ((NFq 11 2 c11 v0 T))) ∧ (K9 false LA S T ∧ K9 true LB S T)) (ky_X11_lee (b := false) (L := LA) (by decide) (by decide) (fun _ => rfl) (mn_X11_lee (Q := fun r T => IV T ∧ Gr S T ∧ (FRI [(11, 0), (11, 1), (11, 2)] [] S T) ∧ K2 S T ∧ ((NFq 11 2 c11 v0 T))) hI o_v0 (fun r T h0 h1 h2 h3 h4 => ⟨h0, h1, h2, h3, h4⟩))) (ky_X11_lee (b := true) (L := LB) (by decide) (by decide) (fun z => z.elim) (mn_X11_lee (Q := fun r T => IV T ∧ Gr S T ∧ (FRI [(11, 0), (11, 1), (11, 2)] [] S T) ∧ K2 S T ∧ ((NFq 11 2 c11 v0 T))) hI o_v0 (fun r T h0 h1 h2 h3 h4 => ⟨h0, h1, h2, h3, h4⟩))) (fun r T a b => ⟨a.1, a.2, b.2⟩)) (fun r T a b => ⟨a.1, a.2, b.2⟩)) (cm_X11_lee (Q3 := fun r T => (IV T ∧ Gr S T ∧ (FRI [(11, 0), (11, 1), (11, 2)] [] S T) ∧ K2 S T ∧ ((NFq 11 2 c11 v0 T))) ∧ (KJ LWJ S T ∧ K9 false LWL S T)) (kj_X11_lee (L := LWJ) (by decide) (by decide) (mn_X11_lee (Q := fun r T => IV T ∧ Gr S T ∧ (FRI [(11, 0), (11, 1), (11, 2)] [] S T) ∧ K2 S T ∧ ((NFq 11 2 c11 v0 T))) hI o_v0 (fun r T h0 h1 h2 h3 h4 => ⟨h0, h1, h2, h3, h4⟩))) (ky_X11_lee (b := false) (L := LWL) (by decide) (by decide) (fun _ => rfl) (mn_X11_lee (Q := fun r T => IV T ∧ Gr S T ∧ (FRI [(11, 0), (11, 1), (11, 2)] [] S T) ∧ K2 S T ∧ ((NFq 11 2 c11 v0 T))) hI o_v0 (fun r T h0 h1 h2 h3 h4 => ⟨h0, h1, h2, h3, h4⟩))) (fun r T a b => ⟨a.1, a.2, b.2⟩)) (fun r T a b => ⟨a.1, a.2, b.2⟩)) (mn_X11_lee (Q := fun r T => IV T ∧ Gr S T ∧ (FRI [(11, 0), (11, 1), (11, 2)] [] S T) ∧ K2 S T ∧ ((NFq 11 2 c11 v0 T))) hI o_v0 (fun r T h0 h1 h2 h3 h4 => ⟨h0, h1, h2, h3, h4⟩)) (fun r T h _ => hq r T h.1.1 h.1.2.1 h.1.2.2.1 h.1.2.2.2.1 h.1.2.2.2.2 h.2)
theorem mz_X11_lies {v0 : Nat} {Q : Int32 → HS → Prop} {S : HS} (hI : IV S) (o_v0 : ob S v0 11)  (hq : ∀ (r : Int32) (T : HS), IV T → Gr S T → FRI [(11, 0), (11, 1), (11, 2)] [] S T → K2 S T → (NFq 11 2 c11 v0 T) → (((K7 S T ∧ K8 S T) ∧ (K9 false LA S T ∧ K9 true LB S T)) ∧ (KJ LWJ S T ∧ K9 false LWL S T)) → Q r T) : P_X11_lies v0 Q S := cm_X11_lies (cm_X11_lies (Q3 := fun r T => (IV T ∧ Gr S T ∧ (FRI [(11, 0), (11, 1), (11, 2)] [] S T) ∧ K2 S T ∧ ((NFq 11 2 c11 v0 T))) ∧ ((K7 S T ∧ K8 S T) ∧ (K9 false LA S T ∧ K9 true LB S T)) ∧ (KJ LWJ S T ∧ K9 false LWL S T)) (cm_X11_lies (Q3 := fun r T => (IV T ∧ Gr S T ∧ (FRI [(11, 0), (11, 1), (11, 2)] [] S T) ∧ K2 S T ∧ ((NFq 11 2 c11 v0 T))) ∧ (K7 S T ∧ K8 S T) ∧ (K9 false LA S T ∧ K9 true LB S T)) (cm_X11_lies (Q3 := fun r T => (IV T ∧ Gr S T ∧ (FRI [(11, 0), (11, 1), (11, 2)] [] S T) ∧ K2 S T ∧ ((NFq 11 2 c11 v0 T))) ∧ K7 S T ∧ K8 S T) (kw_X11_lies (mn_X11_lies (Q := fun r T => IV T ∧ Gr S T ∧ (FRI [(11, 0), (11, 1), (11, 2)] [] S T) ∧ K2 S T ∧ ((NFq 11 2 c11 v0 T))) hI o_v0 (fun r T h0 h1 h2 h3 h4 => ⟨h0, h1, h2, h3, h4⟩))) (kx_X11_lies (mn_X11_lies (Q := fun r T => IV T ∧ Gr S T ∧ (FRI [(11, 0), (11, 1), (11, 2)] [] S T) ∧ K2 S T ∧ ((NFq 11 2 c11 v0 T))) hI o_v0 (fun r T h0 h1 h2 h3 h4 => ⟨h0, h1, h2, h3, h4⟩))) (fun r T a b => ⟨a.1, a.2, b.2⟩)) (cm_X11_lies (Q3 := fun r T => (IV T ∧ Gr S T ∧ (FRI [(11, 0), (11, 1), (11, 2)] [] S T) ∧ K2 S T ∧ ((NFq 11 2 c11 v0 T))) ∧ (K9 false LA S T ∧ K9 true LB S T)) (ky_X11_lies (b := false) (L := LA) (by decide) (by decide) (fun _ => rfl) (mn_X11_lies (Q := fun r T => IV T ∧ Gr S T ∧ (FRI [(11, 0), (11, 1), (11, 2)] [] S T) ∧ K2 S T ∧ ((NFq 11 2 c11 v0 T))) hI o_v0 (fun r T h0 h1 h2 h3 h4 => ⟨h0, h1, h2, h3, h4⟩))) (ky_X11_lies (b := true) (L := LB) (by decide) (by decide) (fun z => z.elim) (mn_X11_lies (Q := fun r T => IV T ∧ Gr S T ∧ (FRI [(11, 0), (11, 1), (11, 2)] [] S T) ∧ K2 S T ∧ ((NFq 11 2 c11 v0 T))) hI o_v0 (fun r T h0 h1 h2 h3 h4 => ⟨h0, h1, h2, h3, h4⟩))) (fun r T a b => ⟨a.1, a.2, b.2⟩)) (fun r T a b => ⟨a.1, a.2, b.2⟩)) (cm_X11_lies (Q3 := fun r T => (IV T ∧ Gr S T ∧ (FRI [(11, 0), (11, 1), (11, 2)] [] S T) ∧ K2 S T ∧ ((NFq 11 2 c11 v0 T))) ∧ (KJ LWJ S T ∧ K9 false LWL S T)) (kj_X11_lies (L := LWJ) (by decide) (by decide) (mn_X11_lies (Q := fun r T => IV T ∧ Gr S T ∧ (FRI [(11, 0), (11, 1), (11, 2)] [] S T) ∧ K2 S T ∧ ((NFq 11 2 c11 v0 T))) hI o_v0 (fun r T h0 h1 h2 h3 h4 => ⟨h0, h1, h2, h3, h4⟩))) (ky_X11_lies (b := false) (L := LWL) (by decide) (by decide) (fun _ => rfl) (mn_X11_lies (Q := fun r T => IV T ∧ Gr S T ∧ (FRI [(11, 0), (11, 1), (11, 2)] [] S T) ∧ K2 S T ∧ ((NFq 11 2 c11 v0 T))) hI o_v0 (fun r T h0 h1 h2 h3 h4 => ⟨h0, h1, h2, h3, h4⟩))) (fun r T a b => ⟨a.1, a.2, b.2⟩)) (fun r T a b => ⟨a.1, a.2, b.2⟩)) (mn_X11_lies (Q := fun r T => IV T ∧ Gr S T ∧ (FRI [(11, 0), (11, 1), (11, 2)] [] S T) ∧ K2 S T ∧ ((NFq 11 2 c11 v0 T))) hI o_v0 (fun r T h0 h1 h2 h3 h4 => ⟨h0, h1, h2, h3, h4⟩)) (fun r T h _ => hq r T h.1.1 h.1.2.1 h.1.2.2.1 h.1.2.2.2.1 h.1.2.2.2.2 h.2)
theorem mt_X11_mark {v0 : Nat} {Q : Int32 → HS → Prop} {S : HS} (hI : IV S) (o_v0 : ob S v0 11) {A : AS} {G : GC} (hm : (fR S v0 3 = none ∧ A = A00) ∨ ∃ rd, WRm v0 rd A G S) (ab : ABd A) (gb : GBd A G) {D : DY} (md : MDd v0 D S) (db : DBd A D) (hq : ∀ (r : Int32) (T : HS), IV T → Gr S T → FRI [(11, 0), (11, 1), (11, 2), (11, 25)] [] S T → K2 S T → (NFq 11 2 c11 v0 T) → ((((K7 S T ∧ K8 S T) ∧ K9 true LB S T) ∧ (KJ LWJ S T ∧ K9 false LWL S T)) ∧ r = tellmark D ∧ MDd v0 (nxmark D) T) → Q r T) : P_X11_mark v0 Q S := cm_X11_mark (cm_X11_mark (Q3 := fun r T => (IV T ∧ Gr S T ∧ (FRI [(11, 0), (11, 1), (11, 2), (11, 25)] [] S T) ∧ K2 S T ∧ ((NFq 11 2 c11 v0 T))) ∧ (((K7 S T ∧ K8 S T) ∧ K9 true LB S T) ∧ (KJ LWJ S T ∧ K9 false LWL S T)) ∧ r = tellmark D ∧ MDd v0 (nxmark D) T) (cm_X11_mark (Q3 := fun r T => (IV T ∧ Gr S T ∧ (FRI [(11, 0), (11, 1), (11, 2), (11, 25)] [] S T) ∧ K2 S T ∧ ((NFq 11 2 c11 v0 T))) ∧ ((K7 S T ∧ K8 S T) ∧ K9 true LB S T) ∧ (KJ LWJ S T ∧ K9 false LWL S T)) (cm_X11_mark (Q3 := fun r T => (IV T ∧ Gr S T ∧ (FRI [(11, 0), (11, 1), (11, 2), (11, 25)] [] S T) ∧ K2 S T ∧ ((NFq 11 2 c11 v0 T))) ∧ (K7 S T ∧ K8 S T) ∧ K9 true LB S T) (cm_X11_mark (Q3 := fun r T => (IV T ∧ Gr S T ∧ (FRI [(11, 0), (11, 1), (11, 2), (11, 25)] [] S T) ∧ K2 S T ∧ ((NFq 11 2 c11 v0 T))) ∧ K7 S T ∧ K8 S T) (kw_X11_mark (mn_X11_mark (Q := fun r T => IV T ∧ Gr S T ∧ (FRI [(11, 0), (11, 1), (11, 2), (11, 25)] [] S T) ∧ K2 S T ∧ ((NFq 11 2 c11 v0 T))) hI o_v0 (fun r T h0 h1 h2 h3 h4 => ⟨h0, h1, h2, h3, h4⟩))) (kx_X11_mark (mn_X11_mark (Q := fun r T => IV T ∧ Gr S T ∧ (FRI [(11, 0), (11, 1), (11, 2), (11, 25)] [] S T) ∧ K2 S T ∧ ((NFq 11 2 c11 v0 T))) hI o_v0 (fun r T h0 h1 h2 h3 h4 => ⟨h0, h1, h2, h3, h4⟩))) (fun r T a b => ⟨a.1, a.2, b.2⟩)) (ky_X11_mark (b := true) (L := LB) (by decide) (by decide) (fun z => z.elim) (mn_X11_mark (Q := fun r T => IV T ∧ Gr S T ∧ (FRI [(11, 0), (11, 1), (11, 2), (11, 25)] [] S T) ∧ K2 S T ∧ ((NFq 11 2 c11 v0 T))) hI o_v0 (fun r T h0 h1 h2 h3 h4 => ⟨h0, h1, h2, h3, h4⟩))) (fun r T a b => ⟨a.1, a.2, b.2⟩)) (cm_X11_mark (Q3 := fun r T => (IV T ∧ Gr S T ∧ (FRI [(11, 0), (11, 1), (11, 2), (11, 25)] [] S T) ∧ K2 S T ∧ ((NFq 11 2 c11 v0 T))) ∧ (KJ LWJ S T ∧ K9 false LWL S T)) (kj_X11_mark (L := LWJ) (by decide) (by decide) (mn_X11_mark (Q := fun r T => IV T ∧ Gr S T ∧ (FRI [(11, 0), (11, 1), (11, 2), (11, 25)] [] S T) ∧ K2 S T ∧ ((NFq 11 2 c11 v0 T))) hI o_v0 (fun r T h0 h1 h2 h3 h4 => ⟨h0, h1, h2, h3, h4⟩))) (ky_X11_mark (b := false) (L := LWL) (by decide) (by decide) (fun _ => rfl) (mn_X11_mark (Q := fun r T => IV T ∧ Gr S T ∧ (FRI [(11, 0), (11, 1), (11, 2), (11, 25)] [] S T) ∧ K2 S T ∧ ((NFq 11 2 c11 v0 T))) hI o_v0 (fun r T h0 h1 h2 h3 h4 => ⟨h0, h1, h2, h3, h4⟩))) (fun r T a b => ⟨a.1, a.2, b.2⟩)) (fun r T a b => ⟨a.1, a.2, b.2⟩)) (tl_X11_mark hm md db (mn_X11_mark (Q := fun r T => IV T ∧ Gr S T ∧ (FRI [(11, 0), (11, 1), (11, 2), (11, 25)] [] S T) ∧ K2 S T ∧ ((NFq 11 2 c11 v0 T))) hI o_v0 (fun r T h0 h1 h2 h3 h4 => ⟨h0, h1, h2, h3, h4⟩))) (fun r T a b => ⟨a.1, a.2, b.2⟩)) (mn_X11_mark (Q := fun r T => IV T ∧ Gr S T ∧ (FRI [(11, 0), (11, 1), (11, 2), (11, 25)] [] S T) ∧ K2 S T ∧ ((NFq 11 2 c11 v0 T))) hI o_v0 (fun r T h0 h1 h2 h3 h4 => ⟨h0, h1, h2, h3, h4⟩)) (fun r T h _ => hq r T h.1.1 h.1.2.1 h.1.2.2.1 h.1.2.2.2.1 h.1.2.2.2.2 h.2)
theorem mz_X11_mean {v0 : Nat} {v1 : Int32} {v2 : Int32} {v3 : Int32} {v4 : Int32} {v5 : Int32} {v6 : Int32} {Q : Int64 → HS → Prop} {S : HS} (hI : IV S) (o_v0 : ob S v0 11)  (hq : ∀ (r : Int64) (T : HS), IV T → Gr S T → FRI [(11, 0), (11, 1), (11, 2)] [] S T → K2 S T → (NFq 11 2 c11 v0 T) → (((K7 S T ∧ K8 S T) ∧ (K9 false LA S T ∧ K9 true LB S T)) ∧ (KJ LWJ S T ∧ K9 false LWL S T)) → Q r T) : P_X11_mean v0 v1 v2 v3 v4 v5 v6 Q S := cm_X11_mean (cm_X11_mean (Q3 := fun r T => (IV T ∧ Gr S T ∧ (FRI [(11, 0), (11, 1), (11, 2)] [] S T) ∧ K2 S T ∧ ((NFq 11 2 c11 v0 T))) ∧ ((K7 S T ∧ K8 S T) ∧ (K9 false LA S T ∧ K9 true LB S T)) ∧ (KJ LWJ S T ∧ K9 false LWL S T)) (cm_X11_mean (Q3 := fun r T => (IV T ∧ Gr S T ∧ (FRI [(11, 0), (11, 1), (11, 2)] [] S T) ∧ K2 S T ∧ ((NFq 11 2 c11 v0 T))) ∧ (K7 S T ∧ K8 S T) ∧ (K9 false LA S T ∧ K9 true LB S T)) (cm_X11_mean (Q3 := fun r T => (IV T ∧ Gr S T ∧ (FRI [(11, 0), (11, 1), (11, 2)] [] S T) ∧ K2 S T ∧ ((NFq 11 2 c11 v0 T))) ∧ K7 S T ∧ K8 S T) (kw_X11_mean (mn_X11_mean (Q := fun r T => IV T ∧ Gr S T ∧ (FRI [(11, 0), (11, 1), (11, 2)] [] S T) ∧ K2 S T ∧ ((NFq 11 2 c11 v0 T))) hI o_v0 (fun r T h0 h1 h2 h3 h4 => ⟨h0, h1, h2, h3, h4⟩))) (kx_X11_mean (mn_X11_mean (Q := fun r T => IV T ∧ Gr S T ∧ (FRI [(11, 0), (11, 1), (11, 2)] [] S T) ∧ K2 S T ∧ ((NFq 11 2 c11 v0 T))) hI o_v0 (fun r T h0 h1 h2 h3 h4 => ⟨h0, h1, h2, h3, h4⟩))) (fun r T a b => ⟨a.1, a.2, b.2⟩)) (cm_X11_mean (Q3 := fun r T => (IV T ∧ Gr S T ∧ (FRI [(11, 0), (11, 1), (11, 2)] [] S T) ∧ K2 S T ∧ ((NFq 11 2 c11 v0 T))) ∧ (K9 false LA S T ∧ K9 true LB S T)) (ky_X11_mean (b := false) (L := LA) (by decide) (by decide) (fun _ => rfl) (mn_X11_mean (Q := fun r T => IV T ∧ Gr S T ∧ (FRI [(11, 0), (11, 1), (11, 2)] [] S T) ∧ K2 S T ∧ ((NFq 11 2 c11 v0 T))) hI o_v0 (fun r T h0 h1 h2 h3 h4 => ⟨h0, h1, h2, h3, h4⟩))) (ky_X11_mean (b := true) (L := LB) (by decide) (by decide) (fun z => z.elim) (mn_X11_mean (Q := fun r T => IV T ∧ Gr S T ∧ (FRI [(11, 0), (11, 1), (11, 2)] [] S T) ∧ K2 S T ∧ ((NFq 11 2 c11 v0 T))) hI o_v0 (fun r T h0 h1 h2 h3 h4 => ⟨h0, h1, h2, h3, h4⟩))) (fun r T a b => ⟨a.1, a.2, b.2⟩)) (fun r T a b => ⟨a.1, a.2, b.2⟩)) (cm_X11_mean (Q3 := fun r T => (IV T ∧ Gr S T ∧ (FRI [(11, 0), (11, 1), (11, 2)] [] S T) ∧ K2 S T ∧ ((NFq 11 2 c11 v0 T))) ∧ (KJ LWJ S T ∧ K9 false LWL S T)) (kj_X11_mean (L := LWJ) (by decide) (by decide) (mn_X11_mean (Q := fun r T => IV T ∧ Gr S T ∧ (FRI [(11, 0), (11, 1), (11, 2)] [] S T) ∧ K2 S T ∧ ((NFq 11 2 c11 v0 T))) hI o_v0 (fun r T h0 h1 h2 h3 h4 => ⟨h0, h1, h2, h3, h4⟩))) (ky_X11_mean (b := false) (L := LWL) (by decide) (by decide) (fun _ => rfl) (mn_X11_mean (Q := fun r T => IV T ∧ Gr S T ∧ (FRI [(11, 0), (11, 1), (11, 2)] [] S T) ∧ K2 S T ∧ ((NFq 11 2 c11 v0 T))) hI o_v0 (fun r T h0 h1 h2 h3 h4 => ⟨h0, h1, h2, h3, h4⟩))) (fun r T a b => ⟨a.1, a.2, b.2⟩)) (fun r T a b => ⟨a.1, a.2, b.2⟩)) (mn_X11_mean (Q := fun r T => IV T ∧ Gr S T ∧ (FRI [(11, 0), (11, 1), (11, 2)] [] S T) ∧ K2 S T ∧ ((NFq 11 2 c11 v0 T))) hI o_v0 (fun r T h0 h1 h2 h3 h4 => ⟨h0, h1, h2, h3, h4⟩)) (fun r T h _ => hq r T h.1.1 h.1.2.1 h.1.2.2.1 h.1.2.2.2.1 h.1.2.2.2.2 h.2)
theorem mz_X11_minutes {v0 : Nat} {v1 : Int32} {v2 : Int32} {v3 : Int32} {Q : Int32 → HS → Prop} {S : HS} (hI : IV S) (o_v0 : ob S v0 11)  (hq : ∀ (r : Int32) (T : HS), IV T → Gr S T → FRI [(11, 0), (11, 1), (11, 2)] [] S T → K2 S T → (NFq 11 2 c11 v0 T) → (((K7 S T ∧ K8 S T) ∧ (K9 false LA S T ∧ K9 true LB S T)) ∧ (KJ LWJ S T ∧ K9 false LWL S T)) → Q r T) : P_X11_minutes v0 v1 v2 v3 Q S := cm_X11_minutes (cm_X11_minutes (Q3 := fun r T => (IV T ∧ Gr S T ∧ (FRI [(11, 0), (11, 1), (11, 2)] [] S T) ∧ K2 S T ∧ ((NFq 11 2 c11 v0 T))) ∧ ((K7 S T ∧ K8 S T) ∧ (K9 false LA S T ∧ K9 true LB S T)) ∧ (KJ LWJ S T ∧ K9 false LWL S T)) (cm_X11_minutes (Q3 := fun r T => (IV T ∧ Gr S T ∧ (FRI [(11, 0), (11, 1), (11, 2)] [] S T) ∧ K2 S T ∧ ((NFq 11 2 c11 v0 T))) ∧ (K7 S T ∧ K8 S T) ∧ (K9 false LA S T ∧ K9 true LB S T)) (cm_X11_minutes (Q3 := fun r T => (IV T ∧ Gr S T ∧ (FRI [(11, 0), (11, 1), (11, 2)] [] S T) ∧ K2 S T ∧ ((NFq 11 2 c11 v0 T))) ∧ K7 S T ∧ K8 S T) (kw_X11_minutes (mn_X11_minutes (Q := fun r T => IV T ∧ Gr S T ∧ (FRI [(11, 0), (11, 1), (11, 2)] [] S T) ∧ K2 S T ∧ ((NFq 11 2 c11 v0 T))) hI o_v0 (fun r T h0 h1 h2 h3 h4 => ⟨h0, h1, h2, h3, h4⟩))) (kx_X11_minutes (mn_X11_minutes (Q := fun r T => IV T ∧ Gr S T ∧ (FRI [(11, 0), (11, 1), (11, 2)] [] S T) ∧ K2 S T ∧ ((NFq 11 2 c11 v0 T))) hI o_v0 (fun r T h0 h1 h2 h3 h4 => ⟨h0, h1, h2, h3, h4⟩))) (fun r T a b => ⟨a.1, a.2, b.2⟩)) (cm_X11_minutes (Q3 := fun r T => (IV T ∧ Gr S T ∧ (FRI [(11, 0), (11, 1), (11, 2)] [] S T) ∧ K2 S T ∧ ((NFq 11 2 c11 v0 T))) ∧ (K9 false LA S T ∧ K9 true LB S T)) (ky_X11_minutes (b := false) (L := LA) (by decide) (by decide) (fun _ => rfl) (mn_X11_minutes (Q := fun r T => IV T ∧ Gr S T ∧ (FRI [(11, 0), (11, 1), (11, 2)] [] S T) ∧ K2 S T ∧ ((NFq 11 2 c11 v0 T))) hI o_v0 (fun r T h0 h1 h2 h3 h4 => ⟨h0, h1, h2, h3, h4⟩))) (ky_X11_minutes (b := true) (L := LB) (by decide) (by decide) (fun z => z.elim) (mn_X11_minutes (Q := fun r T => IV T ∧ Gr S T ∧ (FRI [(11, 0), (11, 1), (11, 2)] [] S T) ∧ K2 S T ∧ ((NFq 11 2 c11 v0 T))) hI o_v0 (fun r T h0 h1 h2 h3 h4 => ⟨h0, h1, h2, h3, h4⟩))) (fun r T a b => ⟨a.1, a.2, b.2⟩)) (fun r T a b => ⟨a.1, a.2, b.2⟩)) (cm_X11_minutes (Q3 := fun r T => (IV T ∧ Gr S T ∧ (FRI [(11, 0), (11, 1), (11, 2)] [] S T) ∧ K2 S T ∧ ((NFq 11 2 c11 v0 T))) ∧ (KJ LWJ S T ∧ K9 false LWL S T)) (kj_X11_minutes (L := LWJ) (by decide) (by decide) (mn_X11_minutes (Q := fun r T => IV T ∧ Gr S T ∧ (FRI [(11, 0), (11, 1), (11, 2)] [] S T) ∧ K2 S T ∧ ((NFq 11 2 c11 v0 T))) hI o_v0 (fun r T h0 h1 h2 h3 h4 => ⟨h0, h1, h2, h3, h4⟩))) (ky_X11_minutes (b := false) (L := LWL) (by decide) (by decide) (fun _ => rfl) (mn_X11_minutes (Q := fun r T => IV T ∧ Gr S T ∧ (FRI [(11, 0), (11, 1), (11, 2)] [] S T) ∧ K2 S T ∧ ((NFq 11 2 c11 v0 T))) hI o_v0 (fun r T h0 h1 h2 h3 h4 => ⟨h0, h1, h2, h3, h4⟩))) (fun r T a b => ⟨a.1, a.2, b.2⟩)) (fun r T a b => ⟨a.1, a.2, b.2⟩)) (mn_X11_minutes (Q := fun r T => IV T ∧ Gr S T ∧ (FRI [(11, 0), (11, 1), (11, 2)] [] S T) ∧ K2 S T ∧ ((NFq 11 2 c11 v0 T))) hI o_v0 (fun r T h0 h1 h2 h3 h4 => ⟨h0, h1, h2, h3, h4⟩)) (fun r T h _ => hq r T h.1.1 h.1.2.1 h.1.2.2.1 h.1.2.2.2.1 h.1.2.2.2.2 h.2)
theorem mt_X11_off {v0 : Nat} {v1 : Int32} {v2 : Int32} {v3 : Int32} {v4 : Int32} {Q : Int32 → HS → Prop} {S : HS} (hI : IV S) (o_v0 : ob S v0 11) {A : AS} {G : GC} (hm : (fR S v0 3 = none ∧ A = A00) ∨ ∃ rd, WRm v0 rd A G S) (ab : ABd A) (gb : GBd A G) (ge : GBe A G) (hq : ∀ (r : Int32) (T : HS), IV T → Gr S T → FRI [(11, 0), (11, 1), (11, 2)] [] S T → K2 S T → (NFq 11 2 c11 v0 T) → ((((K7 S T ∧ K8 S T) ∧ (K9 false LA S T ∧ K9 true LB S T)) ∧ (KJ LWJ S T ∧ K9 false LWL S T)) ∧ r = telloff A G v1 v2 v3 v4) → Q r T) : P_X11_off v0 v1 v2 v3 v4 Q S := cm_X11_off (cm_X11_off (Q3 := fun r T => (IV T ∧ Gr S T ∧ (FRI [(11, 0), (11, 1), (11, 2)] [] S T) ∧ K2 S T ∧ ((NFq 11 2 c11 v0 T))) ∧ (((K7 S T ∧ K8 S T) ∧ (K9 false LA S T ∧ K9 true LB S T)) ∧ (KJ LWJ S T ∧ K9 false LWL S T)) ∧ r = telloff A G v1 v2 v3 v4) (cm_X11_off (Q3 := fun r T => (IV T ∧ Gr S T ∧ (FRI [(11, 0), (11, 1), (11, 2)] [] S T) ∧ K2 S T ∧ ((NFq 11 2 c11 v0 T))) ∧ ((K7 S T ∧ K8 S T) ∧ (K9 false LA S T ∧ K9 true LB S T)) ∧ (KJ LWJ S T ∧ K9 false LWL S T)) (cm_X11_off (Q3 := fun r T => (IV T ∧ Gr S T ∧ (FRI [(11, 0), (11, 1), (11, 2)] [] S T) ∧ K2 S T ∧ ((NFq 11 2 c11 v0 T))) ∧ (K7 S T ∧ K8 S T) ∧ (K9 false LA S T ∧ K9 true LB S T)) (cm_X11_off (Q3 := fun r T => (IV T ∧ Gr S T ∧ (FRI [(11, 0), (11, 1), (11, 2)] [] S T) ∧ K2 S T ∧ ((NFq 11 2 c11 v0 T))) ∧ K7 S T ∧ K8 S T) (kw_X11_off (mn_X11_off (Q := fun r T => IV T ∧ Gr S T ∧ (FRI [(11, 0), (11, 1), (11, 2)] [] S T) ∧ K2 S T ∧ ((NFq 11 2 c11 v0 T))) hI o_v0 (fun r T h0 h1 h2 h3 h4 => ⟨h0, h1, h2, h3, h4⟩))) (kx_X11_off (mn_X11_off (Q := fun r T => IV T ∧ Gr S T ∧ (FRI [(11, 0), (11, 1), (11, 2)] [] S T) ∧ K2 S T ∧ ((NFq 11 2 c11 v0 T))) hI o_v0 (fun r T h0 h1 h2 h3 h4 => ⟨h0, h1, h2, h3, h4⟩))) (fun r T a b => ⟨a.1, a.2, b.2⟩)) (cm_X11_off (Q3 := fun r T => (IV T ∧ Gr S T ∧ (FRI [(11, 0), (11, 1), (11, 2)] [] S T) ∧ K2 S T ∧ ((NFq 11 2 c11 v0 T))) ∧ (K9 false LA S T ∧ K9 true LB S T)) (ky_X11_off (b := false) (L := LA) (by decide) (by decide) (fun _ => rfl) (mn_X11_off (Q := fun r T => IV T ∧ Gr S T ∧ (FRI [(11, 0), (11, 1), (11, 2)] [] S T) ∧ K2 S T ∧ ((NFq 11 2 c11 v0 T))) hI o_v0 (fun r T h0 h1 h2 h3 h4 => ⟨h0, h1, h2, h3, h4⟩))) (ky_X11_off (b := true) (L := LB) (by decide) (by decide) (fun z => z.elim) (mn_X11_off (Q := fun r T => IV T ∧ Gr S T ∧ (FRI [(11, 0), (11, 1), (11, 2)] [] S T) ∧ K2 S T ∧ ((NFq 11 2 c11 v0 T))) hI o_v0 (fun r T h0 h1 h2 h3 h4 => ⟨h0, h1, h2, h3, h4⟩))) (fun r T a b => ⟨a.1, a.2, b.2⟩)) (fun r T a b => ⟨a.1, a.2, b.2⟩)) (cm_X11_off (Q3 := fun r T => (IV T ∧ Gr S T ∧ (FRI [(11, 0), (11, 1), (11, 2)] [] S T) ∧ K2 S T ∧ ((NFq 11 2 c11 v0 T))) ∧ (KJ LWJ S T ∧ K9 false LWL S T)) (kj_X11_off (L := LWJ) (by decide) (by decide) (mn_X11_off (Q := fun r T => IV T ∧ Gr S T ∧ (FRI [(11, 0), (11, 1), (11, 2)] [] S T) ∧ K2 S T ∧ ((NFq 11 2 c11 v0 T))) hI o_v0 (fun r T h0 h1 h2 h3 h4 => ⟨h0, h1, h2, h3, h4⟩))) (ky_X11_off (b := false) (L := LWL) (by decide) (by decide) (fun _ => rfl) (mn_X11_off (Q := fun r T => IV T ∧ Gr S T ∧ (FRI [(11, 0), (11, 1), (11, 2)] [] S T) ∧ K2 S T ∧ ((NFq 11 2 c11 v0 T))) hI o_v0 (fun r T h0 h1 h2 h3 h4 => ⟨h0, h1, h2, h3, h4⟩))) (fun r T a b => ⟨a.1, a.2, b.2⟩)) (fun r T a b => ⟨a.1, a.2, b.2⟩)) (tlr_X11_off hI o_v0 hm ab gb ge (mn_X11_off (Q := fun r T => IV T ∧ Gr S T ∧ (FRI [(11, 0), (11, 1), (11, 2)] [] S T) ∧ K2 S T ∧ ((NFq 11 2 c11 v0 T))) hI o_v0 (fun r T h0 h1 h2 h3 h4 => ⟨h0, h1, h2, h3, h4⟩))) (fun r T a b => ⟨a.1, a.2, b.2⟩)) (mn_X11_off (Q := fun r T => IV T ∧ Gr S T ∧ (FRI [(11, 0), (11, 1), (11, 2)] [] S T) ∧ K2 S T ∧ ((NFq 11 2 c11 v0 T))) hI o_v0 (fun r T h0 h1 h2 h3 h4 => ⟨h0, h1, h2, h3, h4⟩)) (fun r T h _ => hq r T h.1.1 h.1.2.1 h.1.2.2.1 h.1.2.2.2.1 h.1.2.2.2.2 h.2)
theorem mz_X11_road {v0 : Nat} {v1 : Int32} {v2 : Int32} {Q : Int32 → HS → Prop} {S : HS} (hI : IV S) (o_v0 : ob S v0 11)  (hq : ∀ (r : Int32) (T : HS), IV T → Gr S T → FRI [(11, 0), (11, 1), (11, 2)] [] S T → K2 S T → (NFq 11 2 c11 v0 T) → (((K7 S T ∧ K8 S T) ∧ (K9 false LA S T ∧ K9 true LB S T)) ∧ (KJ LWJ S T ∧ K9 false LWL S T)) → Q r T) : P_X11_road v0 v1 v2 Q S := cm_X11_road (cm_X11_road (Q3 := fun r T => (IV T ∧ Gr S T ∧ (FRI [(11, 0), (11, 1), (11, 2)] [] S T) ∧ K2 S T ∧ ((NFq 11 2 c11 v0 T))) ∧ ((K7 S T ∧ K8 S T) ∧ (K9 false LA S T ∧ K9 true LB S T)) ∧ (KJ LWJ S T ∧ K9 false LWL S T)) (cm_X11_road (Q3 := fun r T => (IV T ∧ Gr S T ∧ (FRI [(11, 0), (11, 1), (11, 2)] [] S T) ∧ K2 S T ∧ ((NFq 11 2 c11 v0 T))) ∧ (K7 S T ∧ K8 S T) ∧ (K9 false LA S T ∧ K9 true LB S T)) (cm_X11_road (Q3 := fun r T => (IV T ∧ Gr S T ∧ (FRI [(11, 0), (11, 1), (11, 2)] [] S T) ∧ K2 S T ∧ ((NFq 11 2 c11 v0 T))) ∧ K7 S T ∧ K8 S T) (kw_X11_road (mn_X11_road (Q := fun r T => IV T ∧ Gr S T ∧ (FRI [(11, 0), (11, 1), (11, 2)] [] S T) ∧ K2 S T ∧ ((NFq 11 2 c11 v0 T))) hI o_v0 (fun r T h0 h1 h2 h3 h4 => ⟨h0, h1, h2, h3, h4⟩))) (kx_X11_road (mn_X11_road (Q := fun r T => IV T ∧ Gr S T ∧ (FRI [(11, 0), (11, 1), (11, 2)] [] S T) ∧ K2 S T ∧ ((NFq 11 2 c11 v0 T))) hI o_v0 (fun r T h0 h1 h2 h3 h4 => ⟨h0, h1, h2, h3, h4⟩))) (fun r T a b => ⟨a.1, a.2, b.2⟩)) (cm_X11_road (Q3 := fun r T => (IV T ∧ Gr S T ∧ (FRI [(11, 0), (11, 1), (11, 2)] [] S T) ∧ K2 S T ∧ ((NFq 11 2 c11 v0 T))) ∧ (K9 false LA S T ∧ K9 true LB S T)) (ky_X11_road (b := false) (L := LA) (by decide) (by decide) (fun _ => rfl) (mn_X11_road (Q := fun r T => IV T ∧ Gr S T ∧ (FRI [(11, 0), (11, 1), (11, 2)] [] S T) ∧ K2 S T ∧ ((NFq 11 2 c11 v0 T))) hI o_v0 (fun r T h0 h1 h2 h3 h4 => ⟨h0, h1, h2, h3, h4⟩))) (ky_X11_road (b := true) (L := LB) (by decide) (by decide) (fun z => z.elim) (mn_X11_road (Q := fun r T => IV T ∧ Gr S T ∧ (FRI [(11, 0), (11, 1), (11, 2)] [] S T) ∧ K2 S T ∧ ((NFq 11 2 c11 v0 T))) hI o_v0 (fun r T h0 h1 h2 h3 h4 => ⟨h0, h1, h2, h3, h4⟩))) (fun r T a b => ⟨a.1, a.2, b.2⟩)) (fun r T a b => ⟨a.1, a.2, b.2⟩)) (cm_X11_road (Q3 := fun r T => (IV T ∧ Gr S T ∧ (FRI [(11, 0), (11, 1), (11, 2)] [] S T) ∧ K2 S T ∧ ((NFq 11 2 c11 v0 T))) ∧ (KJ LWJ S T ∧ K9 false LWL S T)) (kj_X11_road (L := LWJ) (by decide) (by decide) (mn_X11_road (Q := fun r T => IV T ∧ Gr S T ∧ (FRI [(11, 0), (11, 1), (11, 2)] [] S T) ∧ K2 S T ∧ ((NFq 11 2 c11 v0 T))) hI o_v0 (fun r T h0 h1 h2 h3 h4 => ⟨h0, h1, h2, h3, h4⟩))) (ky_X11_road (b := false) (L := LWL) (by decide) (by decide) (fun _ => rfl) (mn_X11_road (Q := fun r T => IV T ∧ Gr S T ∧ (FRI [(11, 0), (11, 1), (11, 2)] [] S T) ∧ K2 S T ∧ ((NFq 11 2 c11 v0 T))) hI o_v0 (fun r T h0 h1 h2 h3 h4 => ⟨h0, h1, h2, h3, h4⟩))) (fun r T a b => ⟨a.1, a.2, b.2⟩)) (fun r T a b => ⟨a.1, a.2, b.2⟩)) (mn_X11_road (Q := fun r T => IV T ∧ Gr S T ∧ (FRI [(11, 0), (11, 1), (11, 2)] [] S T) ∧ K2 S T ∧ ((NFq 11 2 c11 v0 T))) hI o_v0 (fun r T h0 h1 h2 h3 h4 => ⟨h0, h1, h2, h3, h4⟩)) (fun r T h _ => hq r T h.1.1 h.1.2.1 h.1.2.2.1 h.1.2.2.2.1 h.1.2.2.2.2 h.2)
theorem mz_X11_round {v0 : Nat} {v1 : Int32} {v2 : Int32} {v3 : Int32} {v4 : Int32} {Q : Int64 → HS → Prop} {S : HS} (hI : IV S) (o_v0 : ob S v0 11)  (hq : ∀ (r : Int64) (T : HS), IV T → Gr S T → FRI [(11, 0), (11, 1), (11, 2)] [] S T → K2 S T → (NFq 11 2 c11 v0 T) → (((K7 S T ∧ K8 S T) ∧ (K9 false LA S T ∧ K9 true LB S T)) ∧ (KJ LWJ S T ∧ K9 false LWL S T)) → Q r T) : P_X11_round v0 v1 v2 v3 v4 Q S := cm_X11_round (cm_X11_round (Q3 := fun r T => (IV T ∧ Gr S T ∧ (FRI [(11, 0), (11, 1), (11, 2)] [] S T) ∧ K2 S T ∧ ((NFq 11 2 c11 v0 T))) ∧ ((K7 S T ∧ K8 S T) ∧ (K9 false LA S T ∧ K9 true LB S T)) ∧ (KJ LWJ S T ∧ K9 false LWL S T)) (cm_X11_round (Q3 := fun r T => (IV T ∧ Gr S T ∧ (FRI [(11, 0), (11, 1), (11, 2)] [] S T) ∧ K2 S T ∧ ((NFq 11 2 c11 v0 T))) ∧ (K7 S T ∧ K8 S T) ∧ (K9 false LA S T ∧ K9 true LB S T)) (cm_X11_round (Q3 := fun r T => (IV T ∧ Gr S T ∧ (FRI [(11, 0), (11, 1), (11, 2)] [] S T) ∧ K2 S T ∧ ((NFq 11 2 c11 v0 T))) ∧ K7 S T ∧ K8 S T) (kw_X11_round (mn_X11_round (Q := fun r T => IV T ∧ Gr S T ∧ (FRI [(11, 0), (11, 1), (11, 2)] [] S T) ∧ K2 S T ∧ ((NFq 11 2 c11 v0 T))) hI o_v0 (fun r T h0 h1 h2 h3 h4 => ⟨h0, h1, h2, h3, h4⟩))) (kx_X11_round (mn_X11_round (Q := fun r T => IV T ∧ Gr S T ∧ (FRI [(11, 0), (11, 1), (11, 2)] [] S T) ∧ K2 S T ∧ ((NFq 11 2 c11 v0 T))) hI o_v0 (fun r T h0 h1 h2 h3 h4 => ⟨h0, h1, h2, h3, h4⟩))) (fun r T a b => ⟨a.1, a.2, b.2⟩)) (cm_X11_round (Q3 := fun r T => (IV T ∧ Gr S T ∧ (FRI [(11, 0), (11, 1), (11, 2)] [] S T) ∧ K2 S T ∧ ((NFq 11 2 c11 v0 T))) ∧ (K9 false LA S T ∧ K9 true LB S T)) (ky_X11_round (b := false) (L := LA) (by decide) (by decide) (fun _ => rfl) (mn_X11_round (Q := fun r T => IV T ∧ Gr S T ∧ (FRI [(11, 0), (11, 1), (11, 2)] [] S T) ∧ K2 S T ∧ ((NFq 11 2 c11 v0 T))) hI o_v0 (fun r T h0 h1 h2 h3 h4 => ⟨h0, h1, h2, h3, h4⟩))) (ky_X11_round (b := true) (L := LB) (by decide) (by decide) (fun z => z.elim) (mn_X11_round (Q := fun r T => IV T ∧ Gr S T ∧ (FRI [(11, 0), (11, 1), (11, 2)] [] S T) ∧ K2 S T ∧ ((NFq 11 2 c11 v0 T))) hI o_v0 (fun r T h0 h1 h2 h3 h4 => ⟨h0, h1, h2, h3, h4⟩))) (fun r T a b => ⟨a.1, a.2, b.2⟩)) (fun r T a b => ⟨a.1, a.2, b.2⟩)) (cm_X11_round (Q3 := fun r T => (IV T ∧ Gr S T ∧ (FRI [(11, 0), (11, 1), (11, 2)] [] S T) ∧ K2 S T ∧ ((NFq 11 2 c11 v0 T))) ∧ (KJ LWJ S T ∧ K9 false LWL S T)) (kj_X11_round (L := LWJ) (by decide) (by decide) (mn_X11_round (Q := fun r T => IV T ∧ Gr S T ∧ (FRI [(11, 0), (11, 1), (11, 2)] [] S T) ∧ K2 S T ∧ ((NFq 11 2 c11 v0 T))) hI o_v0 (fun r T h0 h1 h2 h3 h4 => ⟨h0, h1, h2, h3, h4⟩))) (ky_X11_round (b := false) (L := LWL) (by decide) (by decide) (fun _ => rfl) (mn_X11_round (Q := fun r T => IV T ∧ Gr S T ∧ (FRI [(11, 0), (11, 1), (11, 2)] [] S T) ∧ K2 S T ∧ ((NFq 11 2 c11 v0 T))) hI o_v0 (fun r T h0 h1 h2 h3 h4 => ⟨h0, h1, h2, h3, h4⟩))) (fun r T a b => ⟨a.1, a.2, b.2⟩)) (fun r T a b => ⟨a.1, a.2, b.2⟩)) (mn_X11_round (Q := fun r T => IV T ∧ Gr S T ∧ (FRI [(11, 0), (11, 1), (11, 2)] [] S T) ∧ K2 S T ∧ ((NFq 11 2 c11 v0 T))) hI o_v0 (fun r T h0 h1 h2 h3 h4 => ⟨h0, h1, h2, h3, h4⟩)) (fun r T h _ => hq r T h.1.1 h.1.2.1 h.1.2.2.1 h.1.2.2.2.1 h.1.2.2.2.2 h.2)
theorem mz_X11_saves {v0 : Nat} {v1 : Int32} {v2 : Int32} {v3 : Int32} {v4 : Int32} {v5 : Int32} {Q : Int64 → HS → Prop} {S : HS} (hI : IV S) (o_v0 : ob S v0 11)  (hq : ∀ (r : Int64) (T : HS), IV T → Gr S T → FRI [(11, 0), (11, 1), (11, 2)] [] S T → K2 S T → (NFq 11 2 c11 v0 T) → (((K7 S T ∧ K8 S T) ∧ (K9 false LA S T ∧ K9 true LB S T)) ∧ (KJ LWJ S T ∧ K9 false LWL S T)) → Q r T) : P_X11_saves v0 v1 v2 v3 v4 v5 Q S := cm_X11_saves (cm_X11_saves (Q3 := fun r T => (IV T ∧ Gr S T ∧ (FRI [(11, 0), (11, 1), (11, 2)] [] S T) ∧ K2 S T ∧ ((NFq 11 2 c11 v0 T))) ∧ ((K7 S T ∧ K8 S T) ∧ (K9 false LA S T ∧ K9 true LB S T)) ∧ (KJ LWJ S T ∧ K9 false LWL S T)) (cm_X11_saves (Q3 := fun r T => (IV T ∧ Gr S T ∧ (FRI [(11, 0), (11, 1), (11, 2)] [] S T) ∧ K2 S T ∧ ((NFq 11 2 c11 v0 T))) ∧ (K7 S T ∧ K8 S T) ∧ (K9 false LA S T ∧ K9 true LB S T)) (cm_X11_saves (Q3 := fun r T => (IV T ∧ Gr S T ∧ (FRI [(11, 0), (11, 1), (11, 2)] [] S T) ∧ K2 S T ∧ ((NFq 11 2 c11 v0 T))) ∧ K7 S T ∧ K8 S T) (kw_X11_saves (mn_X11_saves (Q := fun r T => IV T ∧ Gr S T ∧ (FRI [(11, 0), (11, 1), (11, 2)] [] S T) ∧ K2 S T ∧ ((NFq 11 2 c11 v0 T))) hI o_v0 (fun r T h0 h1 h2 h3 h4 => ⟨h0, h1, h2, h3, h4⟩))) (kx_X11_saves (mn_X11_saves (Q := fun r T => IV T ∧ Gr S T ∧ (FRI [(11, 0), (11, 1), (11, 2)] [] S T) ∧ K2 S T ∧ ((NFq 11 2 c11 v0 T))) hI o_v0 (fun r T h0 h1 h2 h3 h4 => ⟨h0, h1, h2, h3, h4⟩))) (fun r T a b => ⟨a.1, a.2, b.2⟩)) (cm_X11_saves (Q3 := fun r T => (IV T ∧ Gr S T ∧ (FRI [(11, 0), (11, 1), (11, 2)] [] S T) ∧ K2 S T ∧ ((NFq 11 2 c11 v0 T))) ∧ (K9 false LA S T ∧ K9 true LB S T)) (ky_X11_saves (b := false) (L := LA) (by decide) (by decide) (fun _ => rfl) (mn_X11_saves (Q := fun r T => IV T ∧ Gr S T ∧ (FRI [(11, 0), (11, 1), (11, 2)] [] S T) ∧ K2 S T ∧ ((NFq 11 2 c11 v0 T))) hI o_v0 (fun r T h0 h1 h2 h3 h4 => ⟨h0, h1, h2, h3, h4⟩))) (ky_X11_saves (b := true) (L := LB) (by decide) (by decide) (fun z => z.elim) (mn_X11_saves (Q := fun r T => IV T ∧ Gr S T ∧ (FRI [(11, 0), (11, 1), (11, 2)] [] S T) ∧ K2 S T ∧ ((NFq 11 2 c11 v0 T))) hI o_v0 (fun r T h0 h1 h2 h3 h4 => ⟨h0, h1, h2, h3, h4⟩))) (fun r T a b => ⟨a.1, a.2, b.2⟩)) (fun r T a b => ⟨a.1, a.2, b.2⟩)) (cm_X11_saves (Q3 := fun r T => (IV T ∧ Gr S T ∧ (FRI [(11, 0), (11, 1), (11, 2)] [] S T) ∧ K2 S T ∧ ((NFq 11 2 c11 v0 T))) ∧ (KJ LWJ S T ∧ K9 false LWL S T)) (kj_X11_saves (L := LWJ) (by decide) (by decide) (mn_X11_saves (Q := fun r T => IV T ∧ Gr S T ∧ (FRI [(11, 0), (11, 1), (11, 2)] [] S T) ∧ K2 S T ∧ ((NFq 11 2 c11 v0 T))) hI o_v0 (fun r T h0 h1 h2 h3 h4 => ⟨h0, h1, h2, h3, h4⟩))) (ky_X11_saves (b := false) (L := LWL) (by decide) (by decide) (fun _ => rfl) (mn_X11_saves (Q := fun r T => IV T ∧ Gr S T ∧ (FRI [(11, 0), (11, 1), (11, 2)] [] S T) ∧ K2 S T ∧ ((NFq 11 2 c11 v0 T))) hI o_v0 (fun r T h0 h1 h2 h3 h4 => ⟨h0, h1, h2, h3, h4⟩))) (fun r T a b => ⟨a.1, a.2, b.2⟩)) (fun r T a b => ⟨a.1, a.2, b.2⟩)) (mn_X11_saves (Q := fun r T => IV T ∧ Gr S T ∧ (FRI [(11, 0), (11, 1), (11, 2)] [] S T) ∧ K2 S T ∧ ((NFq 11 2 c11 v0 T))) hI o_v0 (fun r T h0 h1 h2 h3 h4 => ⟨h0, h1, h2, h3, h4⟩)) (fun r T h _ => hq r T h.1.1 h.1.2.1 h.1.2.2.1 h.1.2.2.2.1 h.1.2.2.2.2 h.2)
theorem mz_X11_size {v0 : Nat} {v1 : Int32} {Q : Int32 → HS → Prop} {S : HS} (hI : IV S) (o_v0 : ob S v0 11)  (hq : ∀ (r : Int32) (T : HS), IV T → Gr S T → FRI [(11, 0)] [] S T → K2 S T → (((K7 S T ∧ K8 S T) ∧ (K9 false LA S T ∧ K9 true LB S T)) ∧ (KJ LWJ S T ∧ K9 false LWL S T)) → Q r T) : P_X11_size v0 v1 Q S := cm_X11_size (cm_X11_size (Q3 := fun r T => (IV T ∧ Gr S T ∧ (FRI [(11, 0)] [] S T) ∧ K2 S T) ∧ ((K7 S T ∧ K8 S T) ∧ (K9 false LA S T ∧ K9 true LB S T)) ∧ (KJ LWJ S T ∧ K9 false LWL S T)) (cm_X11_size (Q3 := fun r T => (IV T ∧ Gr S T ∧ (FRI [(11, 0)] [] S T) ∧ K2 S T) ∧ (K7 S T ∧ K8 S T) ∧ (K9 false LA S T ∧ K9 true LB S T)) (cm_X11_size (Q3 := fun r T => (IV T ∧ Gr S T ∧ (FRI [(11, 0)] [] S T) ∧ K2 S T) ∧ K7 S T ∧ K8 S T) (kw_X11_size (mk_X11_size (Q := fun r T => IV T ∧ Gr S T ∧ (FRI [(11, 0)] [] S T) ∧ K2 S T) hI o_v0 (fun r T h0 h1 h2 h3 => ⟨h0, h1, h2, h3⟩))) (kx_X11_size (mk_X11_size (Q := fun r T => IV T ∧ Gr S T ∧ (FRI [(11, 0)] [] S T) ∧ K2 S T) hI o_v0 (fun r T h0 h1 h2 h3 => ⟨h0, h1, h2, h3⟩))) (fun r T a b => ⟨a.1, a.2, b.2⟩)) (cm_X11_size (Q3 := fun r T => (IV T ∧ Gr S T ∧ (FRI [(11, 0)] [] S T) ∧ K2 S T) ∧ (K9 false LA S T ∧ K9 true LB S T)) (ky_X11_size (b := false) (L := LA) (by decide) (by decide) (fun _ => rfl) (mk_X11_size (Q := fun r T => IV T ∧ Gr S T ∧ (FRI [(11, 0)] [] S T) ∧ K2 S T) hI o_v0 (fun r T h0 h1 h2 h3 => ⟨h0, h1, h2, h3⟩))) (ky_X11_size (b := true) (L := LB) (by decide) (by decide) (fun z => z.elim) (mk_X11_size (Q := fun r T => IV T ∧ Gr S T ∧ (FRI [(11, 0)] [] S T) ∧ K2 S T) hI o_v0 (fun r T h0 h1 h2 h3 => ⟨h0, h1, h2, h3⟩))) (fun r T a b => ⟨a.1, a.2, b.2⟩)) (fun r T a b => ⟨a.1, a.2, b.2⟩)) (cm_X11_size (Q3 := fun r T => (IV T ∧ Gr S T ∧ (FRI [(11, 0)] [] S T) ∧ K2 S T) ∧ (KJ LWJ S T ∧ K9 false LWL S T)) (kj_X11_size (L := LWJ) (by decide) (by decide) (mk_X11_size (Q := fun r T => IV T ∧ Gr S T ∧ (FRI [(11, 0)] [] S T) ∧ K2 S T) hI o_v0 (fun r T h0 h1 h2 h3 => ⟨h0, h1, h2, h3⟩))) (ky_X11_size (b := false) (L := LWL) (by decide) (by decide) (fun _ => rfl) (mk_X11_size (Q := fun r T => IV T ∧ Gr S T ∧ (FRI [(11, 0)] [] S T) ∧ K2 S T) hI o_v0 (fun r T h0 h1 h2 h3 => ⟨h0, h1, h2, h3⟩))) (fun r T a b => ⟨a.1, a.2, b.2⟩)) (fun r T a b => ⟨a.1, a.2, b.2⟩)) (mk_X11_size (Q := fun r T => IV T ∧ Gr S T ∧ (FRI [(11, 0)] [] S T) ∧ K2 S T) hI o_v0 (fun r T h0 h1 h2 h3 => ⟨h0, h1, h2, h3⟩)) (fun r T h _ => hq r T h.1.1 h.1.2.1 h.1.2.2.1 h.1.2.2.2 h.2)
theorem mz_X11_soaked {v0 : Nat} {Q : Int32 → HS → Prop} {S : HS} (hI : IV S) (o_v0 : ob S v0 11)  (hq : ∀ (r : Int32) (T : HS), IV T → Gr S T → FRI [(11, 0), (11, 1), (11, 2)] [] S T → K2 S T → (NFq 11 2 c11 v0 T) → (((K7 S T ∧ K8 S T) ∧ (K9 false LA S T ∧ K9 true LB S T)) ∧ (KJ LWJ S T ∧ K9 false LWL S T)) → Q r T) : P_X11_soaked v0 Q S := cm_X11_soaked (cm_X11_soaked (Q3 := fun r T => (IV T ∧ Gr S T ∧ (FRI [(11, 0), (11, 1), (11, 2)] [] S T) ∧ K2 S T ∧ ((NFq 11 2 c11 v0 T))) ∧ ((K7 S T ∧ K8 S T) ∧ (K9 false LA S T ∧ K9 true LB S T)) ∧ (KJ LWJ S T ∧ K9 false LWL S T)) (cm_X11_soaked (Q3 := fun r T => (IV T ∧ Gr S T ∧ (FRI [(11, 0), (11, 1), (11, 2)] [] S T) ∧ K2 S T ∧ ((NFq 11 2 c11 v0 T))) ∧ (K7 S T ∧ K8 S T) ∧ (K9 false LA S T ∧ K9 true LB S T)) (cm_X11_soaked (Q3 := fun r T => (IV T ∧ Gr S T ∧ (FRI [(11, 0), (11, 1), (11, 2)] [] S T) ∧ K2 S T ∧ ((NFq 11 2 c11 v0 T))) ∧ K7 S T ∧ K8 S T) (kw_X11_soaked (mn_X11_soaked (Q := fun r T => IV T ∧ Gr S T ∧ (FRI [(11, 0), (11, 1), (11, 2)] [] S T) ∧ K2 S T ∧ ((NFq 11 2 c11 v0 T))) hI o_v0 (fun r T h0 h1 h2 h3 h4 => ⟨h0, h1, h2, h3, h4⟩))) (kx_X11_soaked (mn_X11_soaked (Q := fun r T => IV T ∧ Gr S T ∧ (FRI [(11, 0), (11, 1), (11, 2)] [] S T) ∧ K2 S T ∧ ((NFq 11 2 c11 v0 T))) hI o_v0 (fun r T h0 h1 h2 h3 h4 => ⟨h0, h1, h2, h3, h4⟩))) (fun r T a b => ⟨a.1, a.2, b.2⟩)) (cm_X11_soaked (Q3 := fun r T => (IV T ∧ Gr S T ∧ (FRI [(11, 0), (11, 1), (11, 2)] [] S T) ∧ K2 S T ∧ ((NFq 11 2 c11 v0 T))) ∧ (K9 false LA S T ∧ K9 true LB S T)) (ky_X11_soaked (b := false) (L := LA) (by decide) (by decide) (fun _ => rfl) (mn_X11_soaked (Q := fun r T => IV T ∧ Gr S T ∧ (FRI [(11, 0), (11, 1), (11, 2)] [] S T) ∧ K2 S T ∧ ((NFq 11 2 c11 v0 T))) hI o_v0 (fun r T h0 h1 h2 h3 h4 => ⟨h0, h1, h2, h3, h4⟩))) (ky_X11_soaked (b := true) (L := LB) (by decide) (by decide) (fun z => z.elim) (mn_X11_soaked (Q := fun r T => IV T ∧ Gr S T ∧ (FRI [(11, 0), (11, 1), (11, 2)] [] S T) ∧ K2 S T ∧ ((NFq 11 2 c11 v0 T))) hI o_v0 (fun r T h0 h1 h2 h3 h4 => ⟨h0, h1, h2, h3, h4⟩))) (fun r T a b => ⟨a.1, a.2, b.2⟩)) (fun r T a b => ⟨a.1, a.2, b.2⟩)) (cm_X11_soaked (Q3 := fun r T => (IV T ∧ Gr S T ∧ (FRI [(11, 0), (11, 1), (11, 2)] [] S T) ∧ K2 S T ∧ ((NFq 11 2 c11 v0 T))) ∧ (KJ LWJ S T ∧ K9 false LWL S T)) (kj_X11_soaked (L := LWJ) (by decide) (by decide) (mn_X11_soaked (Q := fun r T => IV T ∧ Gr S T ∧ (FRI [(11, 0), (11, 1), (11, 2)] [] S T) ∧ K2 S T ∧ ((NFq 11 2 c11 v0 T))) hI o_v0 (fun r T h0 h1 h2 h3 h4 => ⟨h0, h1, h2, h3, h4⟩))) (ky_X11_soaked (b := false) (L := LWL) (by decide) (by decide) (fun _ => rfl) (mn_X11_soaked (Q := fun r T => IV T ∧ Gr S T ∧ (FRI [(11, 0), (11, 1), (11, 2)] [] S T) ∧ K2 S T ∧ ((NFq 11 2 c11 v0 T))) hI o_v0 (fun r T h0 h1 h2 h3 h4 => ⟨h0, h1, h2, h3, h4⟩))) (fun r T a b => ⟨a.1, a.2, b.2⟩)) (fun r T a b => ⟨a.1, a.2, b.2⟩)) (mn_X11_soaked (Q := fun r T => IV T ∧ Gr S T ∧ (FRI [(11, 0), (11, 1), (11, 2)] [] S T) ∧ K2 S T ∧ ((NFq 11 2 c11 v0 T))) hI o_v0 (fun r T h0 h1 h2 h3 h4 => ⟨h0, h1, h2, h3, h4⟩)) (fun r T h _ => hq r T h.1.1 h.1.2.1 h.1.2.2.1 h.1.2.2.2.1 h.1.2.2.2.2 h.2)
theorem mt_X11_stay {v0 : Nat} {v1 : Int32} {Q : Int32 → HS → Prop} {S : HS} (hI : IV S) (o_v0 : ob S v0 11) {A : AS} {G : GC} (hm : (fR S v0 3 = none ∧ A = A00) ∨ ∃ rd, WRm v0 rd A G S) (ab : ABd A) (gb : GBd A G) {D : DY} (md : MDd v0 D S) (db : DBd A D) (hq : ∀ (r : Int32) (T : HS), IV T → Gr S T → FRI [(11, 0), (11, 1), (11, 2), (11, 24)] [] S T → bl r → K2 S T → (NFq 11 2 c11 v0 T) → ((((K7 S T ∧ K8 S T) ∧ K9 true LB S T) ∧ (KJ LWJ S T ∧ K9 false LWL S T)) ∧ ans (stC A G D v1) r ∧ MDd v0 (nxstay A G D v1) T) → Q r T) : P_X11_stay v0 v1 Q S := cm_X11_stay (cm_X11_stay (Q3 := fun r T => (IV T ∧ Gr S T ∧ (FRI [(11, 0), (11, 1), (11, 2), (11, 24)] [] S T) ∧ bl r ∧ K2 S T ∧ ((NFq 11 2 c11 v0 T))) ∧ (((K7 S T ∧ K8 S T) ∧ K9 true LB S T) ∧ (KJ LWJ S T ∧ K9 false LWL S T)) ∧ ans (stC A G D v1) r ∧ MDd v0 (nxstay A G D v1) T) (cm_X11_stay (Q3 := fun r T => (IV T ∧ Gr S T ∧ (FRI [(11, 0), (11, 1), (11, 2), (11, 24)] [] S T) ∧ bl r ∧ K2 S T ∧ ((NFq 11 2 c11 v0 T))) ∧ ((K7 S T ∧ K8 S T) ∧ K9 true LB S T) ∧ (KJ LWJ S T ∧ K9 false LWL S T)) (cm_X11_stay (Q3 := fun r T => (IV T ∧ Gr S T ∧ (FRI [(11, 0), (11, 1), (11, 2), (11, 24)] [] S T) ∧ bl r ∧ K2 S T ∧ ((NFq 11 2 c11 v0 T))) ∧ (K7 S T ∧ K8 S T) ∧ K9 true LB S T) (cm_X11_stay (Q3 := fun r T => (IV T ∧ Gr S T ∧ (FRI [(11, 0), (11, 1), (11, 2), (11, 24)] [] S T) ∧ bl r ∧ K2 S T ∧ ((NFq 11 2 c11 v0 T))) ∧ K7 S T ∧ K8 S T) (kw_X11_stay (mn_X11_stay (Q := fun r T => IV T ∧ Gr S T ∧ (FRI [(11, 0), (11, 1), (11, 2), (11, 24)] [] S T) ∧ bl r ∧ K2 S T ∧ ((NFq 11 2 c11 v0 T))) hI o_v0 (fun r T h0 h1 h2 h3 h4 h5 => ⟨h0, h1, h2, h3, h4, h5⟩))) (kx_X11_stay (mn_X11_stay (Q := fun r T => IV T ∧ Gr S T ∧ (FRI [(11, 0), (11, 1), (11, 2), (11, 24)] [] S T) ∧ bl r ∧ K2 S T ∧ ((NFq 11 2 c11 v0 T))) hI o_v0 (fun r T h0 h1 h2 h3 h4 h5 => ⟨h0, h1, h2, h3, h4, h5⟩))) (fun r T a b => ⟨a.1, a.2, b.2⟩)) (ky_X11_stay (b := true) (L := LB) (by decide) (by decide) (fun z => z.elim) (mn_X11_stay (Q := fun r T => IV T ∧ Gr S T ∧ (FRI [(11, 0), (11, 1), (11, 2), (11, 24)] [] S T) ∧ bl r ∧ K2 S T ∧ ((NFq 11 2 c11 v0 T))) hI o_v0 (fun r T h0 h1 h2 h3 h4 h5 => ⟨h0, h1, h2, h3, h4, h5⟩))) (fun r T a b => ⟨a.1, a.2, b.2⟩)) (cm_X11_stay (Q3 := fun r T => (IV T ∧ Gr S T ∧ (FRI [(11, 0), (11, 1), (11, 2), (11, 24)] [] S T) ∧ bl r ∧ K2 S T ∧ ((NFq 11 2 c11 v0 T))) ∧ (KJ LWJ S T ∧ K9 false LWL S T)) (kj_X11_stay (L := LWJ) (by decide) (by decide) (mn_X11_stay (Q := fun r T => IV T ∧ Gr S T ∧ (FRI [(11, 0), (11, 1), (11, 2), (11, 24)] [] S T) ∧ bl r ∧ K2 S T ∧ ((NFq 11 2 c11 v0 T))) hI o_v0 (fun r T h0 h1 h2 h3 h4 h5 => ⟨h0, h1, h2, h3, h4, h5⟩))) (ky_X11_stay (b := false) (L := LWL) (by decide) (by decide) (fun _ => rfl) (mn_X11_stay (Q := fun r T => IV T ∧ Gr S T ∧ (FRI [(11, 0), (11, 1), (11, 2), (11, 24)] [] S T) ∧ bl r ∧ K2 S T ∧ ((NFq 11 2 c11 v0 T))) hI o_v0 (fun r T h0 h1 h2 h3 h4 h5 => ⟨h0, h1, h2, h3, h4, h5⟩))) (fun r T a b => ⟨a.1, a.2, b.2⟩)) (fun r T a b => ⟨a.1, a.2, b.2⟩)) (tl_X11_stay hI hm ab gb md db (mn_X11_stay (Q := fun r T => IV T ∧ Gr S T ∧ (FRI [(11, 0), (11, 1), (11, 2), (11, 24)] [] S T) ∧ bl r ∧ K2 S T ∧ ((NFq 11 2 c11 v0 T))) hI o_v0 (fun r T h0 h1 h2 h3 h4 h5 => ⟨h0, h1, h2, h3, h4, h5⟩))) (fun r T a b => ⟨a.1, a.2, b.2⟩)) (mn_X11_stay (Q := fun r T => IV T ∧ Gr S T ∧ (FRI [(11, 0), (11, 1), (11, 2), (11, 24)] [] S T) ∧ bl r ∧ K2 S T ∧ ((NFq 11 2 c11 v0 T))) hI o_v0 (fun r T h0 h1 h2 h3 h4 h5 => ⟨h0, h1, h2, h3, h4, h5⟩)) (fun r T h _ => hq r T h.1.1 h.1.2.1 h.1.2.2.1 h.1.2.2.2.1 h.1.2.2.2.2.1 h.1.2.2.2.2.2 h.2)
theorem mz_X11_step {v0 : Nat} {v1 : Int32} {v2 : Int32} {v3 : Int32} {v4 : Int32} {v5 : Int32} {v6 : Int32} {Q : Int32 → HS → Prop} {S : HS} (hI : IV S) (o_v0 : ob S v0 11)  (hq : ∀ (r : Int32) (T : HS), IV T → Gr S T → FRI [(11, 0), (11, 1), (11, 2)] [] S T → K2 S T → (NFq 11 2 c11 v0 T) → (((K7 S T ∧ K8 S T) ∧ (K9 false LA S T ∧ K9 true LB S T)) ∧ (KJ LWJ S T ∧ K9 false LWL S T)) → Q r T) : P_X11_step v0 v1 v2 v3 v4 v5 v6 Q S := cm_X11_step (cm_X11_step (Q3 := fun r T => (IV T ∧ Gr S T ∧ (FRI [(11, 0), (11, 1), (11, 2)] [] S T) ∧ K2 S T ∧ ((NFq 11 2 c11 v0 T))) ∧ ((K7 S T ∧ K8 S T) ∧ (K9 false LA S T ∧ K9 true LB S T)) ∧ (KJ LWJ S T ∧ K9 false LWL S T)) (cm_X11_step (Q3 := fun r T => (IV T ∧ Gr S T ∧ (FRI [(11, 0), (11, 1), (11, 2)] [] S T) ∧ K2 S T ∧ ((NFq 11 2 c11 v0 T))) ∧ (K7 S T ∧ K8 S T) ∧ (K9 false LA S T ∧ K9 true LB S T)) (cm_X11_step (Q3 := fun r T => (IV T ∧ Gr S T ∧ (FRI [(11, 0), (11, 1), (11, 2)] [] S T) ∧ K2 S T ∧ ((NFq 11 2 c11 v0 T))) ∧ K7 S T ∧ K8 S T) (kw_X11_step (mn_X11_step (Q := fun r T => IV T ∧ Gr S T ∧ (FRI [(11, 0), (11, 1), (11, 2)] [] S T) ∧ K2 S T ∧ ((NFq 11 2 c11 v0 T))) hI o_v0 (fun r T h0 h1 h2 h3 h4 => ⟨h0, h1, h2, h3, h4⟩))) (kx_X11_step (mn_X11_step (Q := fun r T => IV T ∧ Gr S T ∧ (FRI [(11, 0), (11, 1), (11, 2)] [] S T) ∧ K2 S T ∧ ((NFq 11 2 c11 v0 T))) hI o_v0 (fun r T h0 h1 h2 h3 h4 => ⟨h0, h1, h2, h3, h4⟩))) (fun r T a b => ⟨a.1, a.2, b.2⟩)) (cm_X11_step (Q3 := fun r T => (IV T ∧ Gr S T ∧ (FRI [(11, 0), (11, 1), (11, 2)] [] S T) ∧ K2 S T ∧ ((NFq 11 2 c11 v0 T))) ∧ (K9 false LA S T ∧ K9 true LB S T)) (ky_X11_step (b := false) (L := LA) (by decide) (by decide) (fun _ => rfl) (mn_X11_step (Q := fun r T => IV T ∧ Gr S T ∧ (FRI [(11, 0), (11, 1), (11, 2)] [] S T) ∧ K2 S T ∧ ((NFq 11 2 c11 v0 T))) hI o_v0 (fun r T h0 h1 h2 h3 h4 => ⟨h0, h1, h2, h3, h4⟩))) (ky_X11_step (b := true) (L := LB) (by decide) (by decide) (fun z => z.elim) (mn_X11_step (Q := fun r T => IV T ∧ Gr S T ∧ (FRI [(11, 0), (11, 1), (11, 2)] [] S T) ∧ K2 S T ∧ ((NFq 11 2 c11 v0 T))) hI o_v0 (fun r T h0 h1 h2 h3 h4 => ⟨h0, h1, h2, h3, h4⟩))) (fun r T a b => ⟨a.1, a.2, b.2⟩)) (fun r T a b => ⟨a.1, a.2, b.2⟩)) (cm_X11_step (Q3 := fun r T => (IV T ∧ Gr S T ∧ (FRI [(11, 0), (11, 1), (11, 2)] [] S T) ∧ K2 S T ∧ ((NFq 11 2 c11 v0 T))) ∧ (KJ LWJ S T ∧ K9 false LWL S T)) (kj_X11_step (L := LWJ) (by decide) (by decide) (mn_X11_step (Q := fun r T => IV T ∧ Gr S T ∧ (FRI [(11, 0), (11, 1), (11, 2)] [] S T) ∧ K2 S T ∧ ((NFq 11 2 c11 v0 T))) hI o_v0 (fun r T h0 h1 h2 h3 h4 => ⟨h0, h1, h2, h3, h4⟩))) (ky_X11_step (b := false) (L := LWL) (by decide) (by decide) (fun _ => rfl) (mn_X11_step (Q := fun r T => IV T ∧ Gr S T ∧ (FRI [(11, 0), (11, 1), (11, 2)] [] S T) ∧ K2 S T ∧ ((NFq 11 2 c11 v0 T))) hI o_v0 (fun r T h0 h1 h2 h3 h4 => ⟨h0, h1, h2, h3, h4⟩))) (fun r T a b => ⟨a.1, a.2, b.2⟩)) (fun r T a b => ⟨a.1, a.2, b.2⟩)) (mn_X11_step (Q := fun r T => IV T ∧ Gr S T ∧ (FRI [(11, 0), (11, 1), (11, 2)] [] S T) ∧ K2 S T ∧ ((NFq 11 2 c11 v0 T))) hI o_v0 (fun r T h0 h1 h2 h3 h4 => ⟨h0, h1, h2, h3, h4⟩)) (fun r T h _ => hq r T h.1.1 h.1.2.1 h.1.2.2.1 h.1.2.2.2.1 h.1.2.2.2.2 h.2)
theorem mz_X11_steps {v0 : Nat} {v1 : Int32} {v2 : Int32} {v3 : Int32} {v4 : Int32} {v5 : Int32} {Q : Int32 → HS → Prop} {S : HS} (hI : IV S) (o_v0 : ob S v0 11)  (hq : ∀ (r : Int32) (T : HS), IV T → Gr S T → FRI [(11, 0), (11, 1), (11, 2)] [] S T → K2 S T → (NFq 11 2 c11 v0 T) → (((K7 S T ∧ K8 S T) ∧ (K9 false LA S T ∧ K9 true LB S T)) ∧ (KJ LWJ S T ∧ K9 false LWL S T)) → Q r T) : P_X11_steps v0 v1 v2 v3 v4 v5 Q S := cm_X11_steps (cm_X11_steps (Q3 := fun r T => (IV T ∧ Gr S T ∧ (FRI [(11, 0), (11, 1), (11, 2)] [] S T) ∧ K2 S T ∧ ((NFq 11 2 c11 v0 T))) ∧ ((K7 S T ∧ K8 S T) ∧ (K9 false LA S T ∧ K9 true LB S T)) ∧ (KJ LWJ S T ∧ K9 false LWL S T)) (cm_X11_steps (Q3 := fun r T => (IV T ∧ Gr S T ∧ (FRI [(11, 0), (11, 1), (11, 2)] [] S T) ∧ K2 S T ∧ ((NFq 11 2 c11 v0 T))) ∧ (K7 S T ∧ K8 S T) ∧ (K9 false LA S T ∧ K9 true LB S T)) (cm_X11_steps (Q3 := fun r T => (IV T ∧ Gr S T ∧ (FRI [(11, 0), (11, 1), (11, 2)] [] S T) ∧ K2 S T ∧ ((NFq 11 2 c11 v0 T))) ∧ K7 S T ∧ K8 S T) (kw_X11_steps (mn_X11_steps (Q := fun r T => IV T ∧ Gr S T ∧ (FRI [(11, 0), (11, 1), (11, 2)] [] S T) ∧ K2 S T ∧ ((NFq 11 2 c11 v0 T))) hI o_v0 (fun r T h0 h1 h2 h3 h4 => ⟨h0, h1, h2, h3, h4⟩))) (kx_X11_steps (mn_X11_steps (Q := fun r T => IV T ∧ Gr S T ∧ (FRI [(11, 0), (11, 1), (11, 2)] [] S T) ∧ K2 S T ∧ ((NFq 11 2 c11 v0 T))) hI o_v0 (fun r T h0 h1 h2 h3 h4 => ⟨h0, h1, h2, h3, h4⟩))) (fun r T a b => ⟨a.1, a.2, b.2⟩)) (cm_X11_steps (Q3 := fun r T => (IV T ∧ Gr S T ∧ (FRI [(11, 0), (11, 1), (11, 2)] [] S T) ∧ K2 S T ∧ ((NFq 11 2 c11 v0 T))) ∧ (K9 false LA S T ∧ K9 true LB S T)) (ky_X11_steps (b := false) (L := LA) (by decide) (by decide) (fun _ => rfl) (mn_X11_steps (Q := fun r T => IV T ∧ Gr S T ∧ (FRI [(11, 0), (11, 1), (11, 2)] [] S T) ∧ K2 S T ∧ ((NFq 11 2 c11 v0 T))) hI o_v0 (fun r T h0 h1 h2 h3 h4 => ⟨h0, h1, h2, h3, h4⟩))) (ky_X11_steps (b := true) (L := LB) (by decide) (by decide) (fun z => z.elim) (mn_X11_steps (Q := fun r T => IV T ∧ Gr S T ∧ (FRI [(11, 0), (11, 1), (11, 2)] [] S T) ∧ K2 S T ∧ ((NFq 11 2 c11 v0 T))) hI o_v0 (fun r T h0 h1 h2 h3 h4 => ⟨h0, h1, h2, h3, h4⟩))) (fun r T a b => ⟨a.1, a.2, b.2⟩)) (fun r T a b => ⟨a.1, a.2, b.2⟩)) (cm_X11_steps (Q3 := fun r T => (IV T ∧ Gr S T ∧ (FRI [(11, 0), (11, 1), (11, 2)] [] S T) ∧ K2 S T ∧ ((NFq 11 2 c11 v0 T))) ∧ (KJ LWJ S T ∧ K9 false LWL S T)) (kj_X11_steps (L := LWJ) (by decide) (by decide) (mn_X11_steps (Q := fun r T => IV T ∧ Gr S T ∧ (FRI [(11, 0), (11, 1), (11, 2)] [] S T) ∧ K2 S T ∧ ((NFq 11 2 c11 v0 T))) hI o_v0 (fun r T h0 h1 h2 h3 h4 => ⟨h0, h1, h2, h3, h4⟩))) (ky_X11_steps (b := false) (L := LWL) (by decide) (by decide) (fun _ => rfl) (mn_X11_steps (Q := fun r T => IV T ∧ Gr S T ∧ (FRI [(11, 0), (11, 1), (11, 2)] [] S T) ∧ K2 S T ∧ ((NFq 11 2 c11 v0 T))) hI o_v0 (fun r T h0 h1 h2 h3 h4 => ⟨h0, h1, h2, h3, h4⟩))) (fun r T a b => ⟨a.1, a.2, b.2⟩)) (fun r T a b => ⟨a.1, a.2, b.2⟩)) (mn_X11_steps (Q := fun r T => IV T ∧ Gr S T ∧ (FRI [(11, 0), (11, 1), (11, 2)] [] S T) ∧ K2 S T ∧ ((NFq 11 2 c11 v0 T))) hI o_v0 (fun r T h0 h1 h2 h3 h4 => ⟨h0, h1, h2, h3, h4⟩)) (fun r T h _ => hq r T h.1.1 h.1.2.1 h.1.2.2.1 h.1.2.2.2.1 h.1.2.2.2.2 h.2)
theorem mz_X11_there {v0 : Nat} {v1 : Int32} {v2 : Int32} {v3 : Int32} {v4 : Int32} {v5 : Int32} {Q : Int32 → HS → Prop} {S : HS} (hI : IV S) (o_v0 : ob S v0 11)  (hq : ∀ (r : Int32) (T : HS), IV T → Gr S T → FRI [(11, 0), (11, 1), (11, 2)] [] S T → K2 S T → (NFq 11 2 c11 v0 T) → (((K7 S T ∧ K8 S T) ∧ (K9 false LA S T ∧ K9 true LB S T)) ∧ (KJ LWJ S T ∧ K9 false LWL S T)) → Q r T) : P_X11_there v0 v1 v2 v3 v4 v5 Q S := cm_X11_there (cm_X11_there (Q3 := fun r T => (IV T ∧ Gr S T ∧ (FRI [(11, 0), (11, 1), (11, 2)] [] S T) ∧ K2 S T ∧ ((NFq 11 2 c11 v0 T))) ∧ ((K7 S T ∧ K8 S T) ∧ (K9 false LA S T ∧ K9 true LB S T)) ∧ (KJ LWJ S T ∧ K9 false LWL S T)) (cm_X11_there (Q3 := fun r T => (IV T ∧ Gr S T ∧ (FRI [(11, 0), (11, 1), (11, 2)] [] S T) ∧ K2 S T ∧ ((NFq 11 2 c11 v0 T))) ∧ (K7 S T ∧ K8 S T) ∧ (K9 false LA S T ∧ K9 true LB S T)) (cm_X11_there (Q3 := fun r T => (IV T ∧ Gr S T ∧ (FRI [(11, 0), (11, 1), (11, 2)] [] S T) ∧ K2 S T ∧ ((NFq 11 2 c11 v0 T))) ∧ K7 S T ∧ K8 S T) (kw_X11_there (mn_X11_there (Q := fun r T => IV T ∧ Gr S T ∧ (FRI [(11, 0), (11, 1), (11, 2)] [] S T) ∧ K2 S T ∧ ((NFq 11 2 c11 v0 T))) hI o_v0 (fun r T h0 h1 h2 h3 h4 => ⟨h0, h1, h2, h3, h4⟩))) (kx_X11_there (mn_X11_there (Q := fun r T => IV T ∧ Gr S T ∧ (FRI [(11, 0), (11, 1), (11, 2)] [] S T) ∧ K2 S T ∧ ((NFq 11 2 c11 v0 T))) hI o_v0 (fun r T h0 h1 h2 h3 h4 => ⟨h0, h1, h2, h3, h4⟩))) (fun r T a b => ⟨a.1, a.2, b.2⟩)) (cm_X11_there (Q3 := fun r T => (IV T ∧ Gr S T ∧ (FRI [(11, 0), (11, 1), (11, 2)] [] S T) ∧ K2 S T ∧ ((NFq 11 2 c11 v0 T))) ∧ (K9 false LA S T ∧ K9 true LB S T)) (ky_X11_there (b := false) (L := LA) (by decide) (by decide) (fun _ => rfl) (mn_X11_there (Q := fun r T => IV T ∧ Gr S T ∧ (FRI [(11, 0), (11, 1), (11, 2)] [] S T) ∧ K2 S T ∧ ((NFq 11 2 c11 v0 T))) hI o_v0 (fun r T h0 h1 h2 h3 h4 => ⟨h0, h1, h2, h3, h4⟩))) (ky_X11_there (b := true) (L := LB) (by decide) (by decide) (fun z => z.elim) (mn_X11_there (Q := fun r T => IV T ∧ Gr S T ∧ (FRI [(11, 0), (11, 1), (11, 2)] [] S T) ∧ K2 S T ∧ ((NFq 11 2 c11 v0 T))) hI o_v0 (fun r T h0 h1 h2 h3 h4 => ⟨h0, h1, h2, h3, h4⟩))) (fun r T a b => ⟨a.1, a.2, b.2⟩)) (fun r T a b => ⟨a.1, a.2, b.2⟩)) (cm_X11_there (Q3 := fun r T => (IV T ∧ Gr S T ∧ (FRI [(11, 0), (11, 1), (11, 2)] [] S T) ∧ K2 S T ∧ ((NFq 11 2 c11 v0 T))) ∧ (KJ LWJ S T ∧ K9 false LWL S T)) (kj_X11_there (L := LWJ) (by decide) (by decide) (mn_X11_there (Q := fun r T => IV T ∧ Gr S T ∧ (FRI [(11, 0), (11, 1), (11, 2)] [] S T) ∧ K2 S T ∧ ((NFq 11 2 c11 v0 T))) hI o_v0 (fun r T h0 h1 h2 h3 h4 => ⟨h0, h1, h2, h3, h4⟩))) (ky_X11_there (b := false) (L := LWL) (by decide) (by decide) (fun _ => rfl) (mn_X11_there (Q := fun r T => IV T ∧ Gr S T ∧ (FRI [(11, 0), (11, 1), (11, 2)] [] S T) ∧ K2 S T ∧ ((NFq 11 2 c11 v0 T))) hI o_v0 (fun r T h0 h1 h2 h3 h4 => ⟨h0, h1, h2, h3, h4⟩))) (fun r T a b => ⟨a.1, a.2, b.2⟩)) (fun r T a b => ⟨a.1, a.2, b.2⟩)) (mn_X11_there (Q := fun r T => IV T ∧ Gr S T ∧ (FRI [(11, 0), (11, 1), (11, 2)] [] S T) ∧ K2 S T ∧ ((NFq 11 2 c11 v0 T))) hI o_v0 (fun r T h0 h1 h2 h3 h4 => ⟨h0, h1, h2, h3, h4⟩)) (fun r T h _ => hq r T h.1.1 h.1.2.1 h.1.2.2.1 h.1.2.2.2.1 h.1.2.2.2.2 h.2)
theorem mz_X11_trouble {v0 : Nat} {Q : Int32 → HS → Prop} {S : HS} (hI : IV S) (o_v0 : ob S v0 11)  (hq : ∀ (r : Int32) (T : HS), IV T → Gr S T → FRI [(11, 0)] [] S T → K2 S T → (((K7 S T ∧ K8 S T) ∧ (K9 false LA S T ∧ K9 true LB S T)) ∧ (KJ LWJ S T ∧ K9 false LWL S T)) → Q r T) : P_X11_trouble v0 Q S := cm_X11_trouble (cm_X11_trouble (Q3 := fun r T => (IV T ∧ Gr S T ∧ (FRI [(11, 0)] [] S T) ∧ K2 S T) ∧ ((K7 S T ∧ K8 S T) ∧ (K9 false LA S T ∧ K9 true LB S T)) ∧ (KJ LWJ S T ∧ K9 false LWL S T)) (cm_X11_trouble (Q3 := fun r T => (IV T ∧ Gr S T ∧ (FRI [(11, 0)] [] S T) ∧ K2 S T) ∧ (K7 S T ∧ K8 S T) ∧ (K9 false LA S T ∧ K9 true LB S T)) (cm_X11_trouble (Q3 := fun r T => (IV T ∧ Gr S T ∧ (FRI [(11, 0)] [] S T) ∧ K2 S T) ∧ K7 S T ∧ K8 S T) (kw_X11_trouble (mk_X11_trouble (Q := fun r T => IV T ∧ Gr S T ∧ (FRI [(11, 0)] [] S T) ∧ K2 S T) hI o_v0 (fun r T h0 h1 h2 h3 => ⟨h0, h1, h2, h3⟩))) (kx_X11_trouble (mk_X11_trouble (Q := fun r T => IV T ∧ Gr S T ∧ (FRI [(11, 0)] [] S T) ∧ K2 S T) hI o_v0 (fun r T h0 h1 h2 h3 => ⟨h0, h1, h2, h3⟩))) (fun r T a b => ⟨a.1, a.2, b.2⟩)) (cm_X11_trouble (Q3 := fun r T => (IV T ∧ Gr S T ∧ (FRI [(11, 0)] [] S T) ∧ K2 S T) ∧ (K9 false LA S T ∧ K9 true LB S T)) (ky_X11_trouble (b := false) (L := LA) (by decide) (by decide) (fun _ => rfl) (mk_X11_trouble (Q := fun r T => IV T ∧ Gr S T ∧ (FRI [(11, 0)] [] S T) ∧ K2 S T) hI o_v0 (fun r T h0 h1 h2 h3 => ⟨h0, h1, h2, h3⟩))) (ky_X11_trouble (b := true) (L := LB) (by decide) (by decide) (fun z => z.elim) (mk_X11_trouble (Q := fun r T => IV T ∧ Gr S T ∧ (FRI [(11, 0)] [] S T) ∧ K2 S T) hI o_v0 (fun r T h0 h1 h2 h3 => ⟨h0, h1, h2, h3⟩))) (fun r T a b => ⟨a.1, a.2, b.2⟩)) (fun r T a b => ⟨a.1, a.2, b.2⟩)) (cm_X11_trouble (Q3 := fun r T => (IV T ∧ Gr S T ∧ (FRI [(11, 0)] [] S T) ∧ K2 S T) ∧ (KJ LWJ S T ∧ K9 false LWL S T)) (kj_X11_trouble (L := LWJ) (by decide) (by decide) (mk_X11_trouble (Q := fun r T => IV T ∧ Gr S T ∧ (FRI [(11, 0)] [] S T) ∧ K2 S T) hI o_v0 (fun r T h0 h1 h2 h3 => ⟨h0, h1, h2, h3⟩))) (ky_X11_trouble (b := false) (L := LWL) (by decide) (by decide) (fun _ => rfl) (mk_X11_trouble (Q := fun r T => IV T ∧ Gr S T ∧ (FRI [(11, 0)] [] S T) ∧ K2 S T) hI o_v0 (fun r T h0 h1 h2 h3 => ⟨h0, h1, h2, h3⟩))) (fun r T a b => ⟨a.1, a.2, b.2⟩)) (fun r T a b => ⟨a.1, a.2, b.2⟩)) (mk_X11_trouble (Q := fun r T => IV T ∧ Gr S T ∧ (FRI [(11, 0)] [] S T) ∧ K2 S T) hI o_v0 (fun r T h0 h1 h2 h3 => ⟨h0, h1, h2, h3⟩)) (fun r T h _ => hq r T h.1.1 h.1.2.1 h.1.2.2.1 h.1.2.2.2 h.2)
theorem mt_X11_undo {v0 : Nat} {Q : Int32 → HS → Prop} {S : HS} (hI : IV S) (o_v0 : ob S v0 11) {A : AS} {G : GC} (hm : (fR S v0 3 = none ∧ A = A00) ∨ ∃ rd, WRm v0 rd A G S) (ab : ABd A) (gb : GBd A G) {D : DY} (md : MDd v0 D S) (db : DBd A D) (hq : ∀ (r : Int32) (T : HS), IV T → Gr S T → FRI [(11, 0), (11, 1), (11, 2), (11, 24)] [] S T → bl r → K2 S T → (NFq 11 2 c11 v0 T) → ((((K7 S T ∧ K8 S T) ∧ K9 true LB S T) ∧ (KJ LWJ S T ∧ K9 false LWL S T)) ∧ ans (0 < dU D) r ∧ MDd v0 (nxundo D) T) → Q r T) : P_X11_undo v0 Q S := cm_X11_undo (cm_X11_undo (Q3 := fun r T => (IV T ∧ Gr S T ∧ (FRI [(11, 0), (11, 1), (11, 2), (11, 24)] [] S T) ∧ bl r ∧ K2 S T ∧ ((NFq 11 2 c11 v0 T))) ∧ (((K7 S T ∧ K8 S T) ∧ K9 true LB S T) ∧ (KJ LWJ S T ∧ K9 false LWL S T)) ∧ ans (0 < dU D) r ∧ MDd v0 (nxundo D) T) (cm_X11_undo (Q3 := fun r T => (IV T ∧ Gr S T ∧ (FRI [(11, 0), (11, 1), (11, 2), (11, 24)] [] S T) ∧ bl r ∧ K2 S T ∧ ((NFq 11 2 c11 v0 T))) ∧ ((K7 S T ∧ K8 S T) ∧ K9 true LB S T) ∧ (KJ LWJ S T ∧ K9 false LWL S T)) (cm_X11_undo (Q3 := fun r T => (IV T ∧ Gr S T ∧ (FRI [(11, 0), (11, 1), (11, 2), (11, 24)] [] S T) ∧ bl r ∧ K2 S T ∧ ((NFq 11 2 c11 v0 T))) ∧ (K7 S T ∧ K8 S T) ∧ K9 true LB S T) (cm_X11_undo (Q3 := fun r T => (IV T ∧ Gr S T ∧ (FRI [(11, 0), (11, 1), (11, 2), (11, 24)] [] S T) ∧ bl r ∧ K2 S T ∧ ((NFq 11 2 c11 v0 T))) ∧ K7 S T ∧ K8 S T) (kw_X11_undo (mn_X11_undo (Q := fun r T => IV T ∧ Gr S T ∧ (FRI [(11, 0), (11, 1), (11, 2), (11, 24)] [] S T) ∧ bl r ∧ K2 S T ∧ ((NFq 11 2 c11 v0 T))) hI o_v0 (fun r T h0 h1 h2 h3 h4 h5 => ⟨h0, h1, h2, h3, h4, h5⟩))) (kx_X11_undo (mn_X11_undo (Q := fun r T => IV T ∧ Gr S T ∧ (FRI [(11, 0), (11, 1), (11, 2), (11, 24)] [] S T) ∧ bl r ∧ K2 S T ∧ ((NFq 11 2 c11 v0 T))) hI o_v0 (fun r T h0 h1 h2 h3 h4 h5 => ⟨h0, h1, h2, h3, h4, h5⟩))) (fun r T a b => ⟨a.1, a.2, b.2⟩)) (ky_X11_undo (b := true) (L := LB) (by decide) (by decide) (fun z => z.elim) (mn_X11_undo (Q := fun r T => IV T ∧ Gr S T ∧ (FRI [(11, 0), (11, 1), (11, 2), (11, 24)] [] S T) ∧ bl r ∧ K2 S T ∧ ((NFq 11 2 c11 v0 T))) hI o_v0 (fun r T h0 h1 h2 h3 h4 h5 => ⟨h0, h1, h2, h3, h4, h5⟩))) (fun r T a b => ⟨a.1, a.2, b.2⟩)) (cm_X11_undo (Q3 := fun r T => (IV T ∧ Gr S T ∧ (FRI [(11, 0), (11, 1), (11, 2), (11, 24)] [] S T) ∧ bl r ∧ K2 S T ∧ ((NFq 11 2 c11 v0 T))) ∧ (KJ LWJ S T ∧ K9 false LWL S T)) (kj_X11_undo (L := LWJ) (by decide) (by decide) (mn_X11_undo (Q := fun r T => IV T ∧ Gr S T ∧ (FRI [(11, 0), (11, 1), (11, 2), (11, 24)] [] S T) ∧ bl r ∧ K2 S T ∧ ((NFq 11 2 c11 v0 T))) hI o_v0 (fun r T h0 h1 h2 h3 h4 h5 => ⟨h0, h1, h2, h3, h4, h5⟩))) (ky_X11_undo (b := false) (L := LWL) (by decide) (by decide) (fun _ => rfl) (mn_X11_undo (Q := fun r T => IV T ∧ Gr S T ∧ (FRI [(11, 0), (11, 1), (11, 2), (11, 24)] [] S T) ∧ bl r ∧ K2 S T ∧ ((NFq 11 2 c11 v0 T))) hI o_v0 (fun r T h0 h1 h2 h3 h4 h5 => ⟨h0, h1, h2, h3, h4, h5⟩))) (fun r T a b => ⟨a.1, a.2, b.2⟩)) (fun r T a b => ⟨a.1, a.2, b.2⟩)) (tl_X11_undo hm md db (mn_X11_undo (Q := fun r T => IV T ∧ Gr S T ∧ (FRI [(11, 0), (11, 1), (11, 2), (11, 24)] [] S T) ∧ bl r ∧ K2 S T ∧ ((NFq 11 2 c11 v0 T))) hI o_v0 (fun r T h0 h1 h2 h3 h4 h5 => ⟨h0, h1, h2, h3, h4, h5⟩))) (fun r T a b => ⟨a.1, a.2, b.2⟩)) (mn_X11_undo (Q := fun r T => IV T ∧ Gr S T ∧ (FRI [(11, 0), (11, 1), (11, 2), (11, 24)] [] S T) ∧ bl r ∧ K2 S T ∧ ((NFq 11 2 c11 v0 T))) hI o_v0 (fun r T h0 h1 h2 h3 h4 h5 => ⟨h0, h1, h2, h3, h4, h5⟩)) (fun r T h _ => hq r T h.1.1 h.1.2.1 h.1.2.2.1 h.1.2.2.2.1 h.1.2.2.2.2.1 h.1.2.2.2.2.2 h.2)
theorem mz_X11_walker {v0 : Nat} {v1 : Int32} {v2 : Int32} {Q : Int32 → HS → Prop} {S : HS} (hI : IV S) (o_v0 : ob S v0 11)  (hq : ∀ (r : Int32) (T : HS), IV T → Gr S T → FRI [(11, 0), (11, 1), (11, 2)] [] S T → K2 S T → (NFq 11 2 c11 v0 T) → (((K7 S T ∧ K8 S T) ∧ (K9 false LA S T ∧ K9 true LB S T)) ∧ (KJ LWJ S T ∧ K9 false LWL S T)) → Q r T) : P_X11_walker v0 v1 v2 Q S := cm_X11_walker (cm_X11_walker (Q3 := fun r T => (IV T ∧ Gr S T ∧ (FRI [(11, 0), (11, 1), (11, 2)] [] S T) ∧ K2 S T ∧ ((NFq 11 2 c11 v0 T))) ∧ ((K7 S T ∧ K8 S T) ∧ (K9 false LA S T ∧ K9 true LB S T)) ∧ (KJ LWJ S T ∧ K9 false LWL S T)) (cm_X11_walker (Q3 := fun r T => (IV T ∧ Gr S T ∧ (FRI [(11, 0), (11, 1), (11, 2)] [] S T) ∧ K2 S T ∧ ((NFq 11 2 c11 v0 T))) ∧ (K7 S T ∧ K8 S T) ∧ (K9 false LA S T ∧ K9 true LB S T)) (cm_X11_walker (Q3 := fun r T => (IV T ∧ Gr S T ∧ (FRI [(11, 0), (11, 1), (11, 2)] [] S T) ∧ K2 S T ∧ ((NFq 11 2 c11 v0 T))) ∧ K7 S T ∧ K8 S T) (kw_X11_walker (mn_X11_walker (Q := fun r T => IV T ∧ Gr S T ∧ (FRI [(11, 0), (11, 1), (11, 2)] [] S T) ∧ K2 S T ∧ ((NFq 11 2 c11 v0 T))) hI o_v0 (fun r T h0 h1 h2 h3 h4 => ⟨h0, h1, h2, h3, h4⟩))) (kx_X11_walker (mn_X11_walker (Q := fun r T => IV T ∧ Gr S T ∧ (FRI [(11, 0), (11, 1), (11, 2)] [] S T) ∧ K2 S T ∧ ((NFq 11 2 c11 v0 T))) hI o_v0 (fun r T h0 h1 h2 h3 h4 => ⟨h0, h1, h2, h3, h4⟩))) (fun r T a b => ⟨a.1, a.2, b.2⟩)) (cm_X11_walker (Q3 := fun r T => (IV T ∧ Gr S T ∧ (FRI [(11, 0), (11, 1), (11, 2)] [] S T) ∧ K2 S T ∧ ((NFq 11 2 c11 v0 T))) ∧ (K9 false LA S T ∧ K9 true LB S T)) (ky_X11_walker (b := false) (L := LA) (by decide) (by decide) (fun _ => rfl) (mn_X11_walker (Q := fun r T => IV T ∧ Gr S T ∧ (FRI [(11, 0), (11, 1), (11, 2)] [] S T) ∧ K2 S T ∧ ((NFq 11 2 c11 v0 T))) hI o_v0 (fun r T h0 h1 h2 h3 h4 => ⟨h0, h1, h2, h3, h4⟩))) (ky_X11_walker (b := true) (L := LB) (by decide) (by decide) (fun z => z.elim) (mn_X11_walker (Q := fun r T => IV T ∧ Gr S T ∧ (FRI [(11, 0), (11, 1), (11, 2)] [] S T) ∧ K2 S T ∧ ((NFq 11 2 c11 v0 T))) hI o_v0 (fun r T h0 h1 h2 h3 h4 => ⟨h0, h1, h2, h3, h4⟩))) (fun r T a b => ⟨a.1, a.2, b.2⟩)) (fun r T a b => ⟨a.1, a.2, b.2⟩)) (cm_X11_walker (Q3 := fun r T => (IV T ∧ Gr S T ∧ (FRI [(11, 0), (11, 1), (11, 2)] [] S T) ∧ K2 S T ∧ ((NFq 11 2 c11 v0 T))) ∧ (KJ LWJ S T ∧ K9 false LWL S T)) (kj_X11_walker (L := LWJ) (by decide) (by decide) (mn_X11_walker (Q := fun r T => IV T ∧ Gr S T ∧ (FRI [(11, 0), (11, 1), (11, 2)] [] S T) ∧ K2 S T ∧ ((NFq 11 2 c11 v0 T))) hI o_v0 (fun r T h0 h1 h2 h3 h4 => ⟨h0, h1, h2, h3, h4⟩))) (ky_X11_walker (b := false) (L := LWL) (by decide) (by decide) (fun _ => rfl) (mn_X11_walker (Q := fun r T => IV T ∧ Gr S T ∧ (FRI [(11, 0), (11, 1), (11, 2)] [] S T) ∧ K2 S T ∧ ((NFq 11 2 c11 v0 T))) hI o_v0 (fun r T h0 h1 h2 h3 h4 => ⟨h0, h1, h2, h3, h4⟩))) (fun r T a b => ⟨a.1, a.2, b.2⟩)) (fun r T a b => ⟨a.1, a.2, b.2⟩)) (mn_X11_walker (Q := fun r T => IV T ∧ Gr S T ∧ (FRI [(11, 0), (11, 1), (11, 2)] [] S T) ∧ K2 S T ∧ ((NFq 11 2 c11 v0 T))) hI o_v0 (fun r T h0 h1 h2 h3 h4 => ⟨h0, h1, h2, h3, h4⟩)) (fun r T h _ => hq r T h.1.1 h.1.2.1 h.1.2.2.1 h.1.2.2.2.1 h.1.2.2.2.2 h.2)
theorem mz_X11_wet {v0 : Nat} {v1 : Int32} {v2 : Int32} {v3 : Int32} {v4 : Int32} {v5 : Int32} {v6 : Int32} {Q : Int64 → HS → Prop} {S : HS} (hI : IV S) (o_v0 : ob S v0 11)  (hq : ∀ (r : Int64) (T : HS), IV T → Gr S T → FRI [(11, 0), (11, 1), (11, 2)] [] S T → K2 S T → (NFq 11 2 c11 v0 T) → (((K7 S T ∧ K8 S T) ∧ (K9 false LA S T ∧ K9 true LB S T)) ∧ (KJ LWJ S T ∧ K9 false LWL S T)) → Q r T) : P_X11_wet v0 v1 v2 v3 v4 v5 v6 Q S := cm_X11_wet (cm_X11_wet (Q3 := fun r T => (IV T ∧ Gr S T ∧ (FRI [(11, 0), (11, 1), (11, 2)] [] S T) ∧ K2 S T ∧ ((NFq 11 2 c11 v0 T))) ∧ ((K7 S T ∧ K8 S T) ∧ (K9 false LA S T ∧ K9 true LB S T)) ∧ (KJ LWJ S T ∧ K9 false LWL S T)) (cm_X11_wet (Q3 := fun r T => (IV T ∧ Gr S T ∧ (FRI [(11, 0), (11, 1), (11, 2)] [] S T) ∧ K2 S T ∧ ((NFq 11 2 c11 v0 T))) ∧ (K7 S T ∧ K8 S T) ∧ (K9 false LA S T ∧ K9 true LB S T)) (cm_X11_wet (Q3 := fun r T => (IV T ∧ Gr S T ∧ (FRI [(11, 0), (11, 1), (11, 2)] [] S T) ∧ K2 S T ∧ ((NFq 11 2 c11 v0 T))) ∧ K7 S T ∧ K8 S T) (kw_X11_wet (mn_X11_wet (Q := fun r T => IV T ∧ Gr S T ∧ (FRI [(11, 0), (11, 1), (11, 2)] [] S T) ∧ K2 S T ∧ ((NFq 11 2 c11 v0 T))) hI o_v0 (fun r T h0 h1 h2 h3 h4 => ⟨h0, h1, h2, h3, h4⟩))) (kx_X11_wet (mn_X11_wet (Q := fun r T => IV T ∧ Gr S T ∧ (FRI [(11, 0), (11, 1), (11, 2)] [] S T) ∧ K2 S T ∧ ((NFq 11 2 c11 v0 T))) hI o_v0 (fun r T h0 h1 h2 h3 h4 => ⟨h0, h1, h2, h3, h4⟩))) (fun r T a b => ⟨a.1, a.2, b.2⟩)) (cm_X11_wet (Q3 := fun r T => (IV T ∧ Gr S T ∧ (FRI [(11, 0), (11, 1), (11, 2)] [] S T) ∧ K2 S T ∧ ((NFq 11 2 c11 v0 T))) ∧ (K9 false LA S T ∧ K9 true LB S T)) (ky_X11_wet (b := false) (L := LA) (by decide) (by decide) (fun _ => rfl) (mn_X11_wet (Q := fun r T => IV T ∧ Gr S T ∧ (FRI [(11, 0), (11, 1), (11, 2)] [] S T) ∧ K2 S T ∧ ((NFq 11 2 c11 v0 T))) hI o_v0 (fun r T h0 h1 h2 h3 h4 => ⟨h0, h1, h2, h3, h4⟩))) (ky_X11_wet (b := true) (L := LB) (by decide) (by decide) (fun z => z.elim) (mn_X11_wet (Q := fun r T => IV T ∧ Gr S T ∧ (FRI [(11, 0), (11, 1), (11, 2)] [] S T) ∧ K2 S T ∧ ((NFq 11 2 c11 v0 T))) hI o_v0 (fun r T h0 h1 h2 h3 h4 => ⟨h0, h1, h2, h3, h4⟩))) (fun r T a b => ⟨a.1, a.2, b.2⟩)) (fun r T a b => ⟨a.1, a.2, b.2⟩)) (cm_X11_wet (Q3 := fun r T => (IV T ∧ Gr S T ∧ (FRI [(11, 0), (11, 1), (11, 2)] [] S T) ∧ K2 S T ∧ ((NFq 11 2 c11 v0 T))) ∧ (KJ LWJ S T ∧ K9 false LWL S T)) (kj_X11_wet (L := LWJ) (by decide) (by decide) (mn_X11_wet (Q := fun r T => IV T ∧ Gr S T ∧ (FRI [(11, 0), (11, 1), (11, 2)] [] S T) ∧ K2 S T ∧ ((NFq 11 2 c11 v0 T))) hI o_v0 (fun r T h0 h1 h2 h3 h4 => ⟨h0, h1, h2, h3, h4⟩))) (ky_X11_wet (b := false) (L := LWL) (by decide) (by decide) (fun _ => rfl) (mn_X11_wet (Q := fun r T => IV T ∧ Gr S T ∧ (FRI [(11, 0), (11, 1), (11, 2)] [] S T) ∧ K2 S T ∧ ((NFq 11 2 c11 v0 T))) hI o_v0 (fun r T h0 h1 h2 h3 h4 => ⟨h0, h1, h2, h3, h4⟩))) (fun r T a b => ⟨a.1, a.2, b.2⟩)) (fun r T a b => ⟨a.1, a.2, b.2⟩)) (mn_X11_wet (Q := fun r T => IV T ∧ Gr S T ∧ (FRI [(11, 0), (11, 1), (11, 2)] [] S T) ∧ K2 S T ∧ ((NFq 11 2 c11 v0 T))) hI o_v0 (fun r T h0 h1 h2 h3 h4 => ⟨h0, h1, h2, h3, h4⟩)) (fun r T h _ => hq r T h.1.1 h.1.2.1 h.1.2.2.1 h.1.2.2.2.1 h.1.2.2.2.2 h.2)
theorem mz_X11_wetness {v0 : Nat} {v1 : Int32} {Q : Int64 → HS → Prop} {S : HS} (hI : IV S) (o_v0 : ob S v0 11)  (hq : ∀ (r : Int64) (T : HS), IV T → Gr S T → FRI [(11, 0), (11, 1), (11, 2)] [] S T → K2 S T → (NFq 11 2 c11 v0 T) → (((K7 S T ∧ K8 S T) ∧ (K9 false LA S T ∧ K9 true LB S T)) ∧ (KJ LWJ S T ∧ K9 false LWL S T)) → Q r T) : P_X11_wetness v0 v1 Q S := cm_X11_wetness (cm_X11_wetness (Q3 := fun r T => (IV T ∧ Gr S T ∧ (FRI [(11, 0), (11, 1), (11, 2)] [] S T) ∧ K2 S T ∧ ((NFq 11 2 c11 v0 T))) ∧ ((K7 S T ∧ K8 S T) ∧ (K9 false LA S T ∧ K9 true LB S T)) ∧ (KJ LWJ S T ∧ K9 false LWL S T)) (cm_X11_wetness (Q3 := fun r T => (IV T ∧ Gr S T ∧ (FRI [(11, 0), (11, 1), (11, 2)] [] S T) ∧ K2 S T ∧ ((NFq 11 2 c11 v0 T))) ∧ (K7 S T ∧ K8 S T) ∧ (K9 false LA S T ∧ K9 true LB S T)) (cm_X11_wetness (Q3 := fun r T => (IV T ∧ Gr S T ∧ (FRI [(11, 0), (11, 1), (11, 2)] [] S T) ∧ K2 S T ∧ ((NFq 11 2 c11 v0 T))) ∧ K7 S T ∧ K8 S T) (kw_X11_wetness (mn_X11_wetness (Q := fun r T => IV T ∧ Gr S T ∧ (FRI [(11, 0), (11, 1), (11, 2)] [] S T) ∧ K2 S T ∧ ((NFq 11 2 c11 v0 T))) hI o_v0 (fun r T h0 h1 h2 h3 h4 => ⟨h0, h1, h2, h3, h4⟩))) (kx_X11_wetness (mn_X11_wetness (Q := fun r T => IV T ∧ Gr S T ∧ (FRI [(11, 0), (11, 1), (11, 2)] [] S T) ∧ K2 S T ∧ ((NFq 11 2 c11 v0 T))) hI o_v0 (fun r T h0 h1 h2 h3 h4 => ⟨h0, h1, h2, h3, h4⟩))) (fun r T a b => ⟨a.1, a.2, b.2⟩)) (cm_X11_wetness (Q3 := fun r T => (IV T ∧ Gr S T ∧ (FRI [(11, 0), (11, 1), (11, 2)] [] S T) ∧ K2 S T ∧ ((NFq 11 2 c11 v0 T))) ∧ (K9 false LA S T ∧ K9 true LB S T)) (ky_X11_wetness (b := false) (L := LA) (by decide) (by decide) (fun _ => rfl) (mn_X11_wetness (Q := fun r T => IV T ∧ Gr S T ∧ (FRI [(11, 0), (11, 1), (11, 2)] [] S T) ∧ K2 S T ∧ ((NFq 11 2 c11 v0 T))) hI o_v0 (fun r T h0 h1 h2 h3 h4 => ⟨h0, h1, h2, h3, h4⟩))) (ky_X11_wetness (b := true) (L := LB) (by decide) (by decide) (fun z => z.elim) (mn_X11_wetness (Q := fun r T => IV T ∧ Gr S T ∧ (FRI [(11, 0), (11, 1), (11, 2)] [] S T) ∧ K2 S T ∧ ((NFq 11 2 c11 v0 T))) hI o_v0 (fun r T h0 h1 h2 h3 h4 => ⟨h0, h1, h2, h3, h4⟩))) (fun r T a b => ⟨a.1, a.2, b.2⟩)) (fun r T a b => ⟨a.1, a.2, b.2⟩)) (cm_X11_wetness (Q3 := fun r T => (IV T ∧ Gr S T ∧ (FRI [(11, 0), (11, 1), (11, 2)] [] S T) ∧ K2 S T ∧ ((NFq 11 2 c11 v0 T))) ∧ (KJ LWJ S T ∧ K9 false LWL S T)) (kj_X11_wetness (L := LWJ) (by decide) (by decide) (mn_X11_wetness (Q := fun r T => IV T ∧ Gr S T ∧ (FRI [(11, 0), (11, 1), (11, 2)] [] S T) ∧ K2 S T ∧ ((NFq 11 2 c11 v0 T))) hI o_v0 (fun r T h0 h1 h2 h3 h4 => ⟨h0, h1, h2, h3, h4⟩))) (ky_X11_wetness (b := false) (L := LWL) (by decide) (by decide) (fun _ => rfl) (mn_X11_wetness (Q := fun r T => IV T ∧ Gr S T ∧ (FRI [(11, 0), (11, 1), (11, 2)] [] S T) ∧ K2 S T ∧ ((NFq 11 2 c11 v0 T))) hI o_v0 (fun r T h0 h1 h2 h3 h4 => ⟨h0, h1, h2, h3, h4⟩))) (fun r T a b => ⟨a.1, a.2, b.2⟩)) (fun r T a b => ⟨a.1, a.2, b.2⟩)) (mn_X11_wetness (Q := fun r T => IV T ∧ Gr S T ∧ (FRI [(11, 0), (11, 1), (11, 2)] [] S T) ∧ K2 S T ∧ ((NFq 11 2 c11 v0 T))) hI o_v0 (fun r T h0 h1 h2 h3 h4 => ⟨h0, h1, h2, h3, h4⟩)) (fun r T h _ => hq r T h.1.1 h.1.2.1 h.1.2.2.1 h.1.2.2.2.1 h.1.2.2.2.2 h.2)
theorem mz_X11_where {v0 : Nat} {Q : Int32 → HS → Prop} {S : HS} (hI : IV S) (o_v0 : ob S v0 11)  (hq : ∀ (r : Int32) (T : HS), IV T → Gr S T → FRI [(11, 0)] [] S T → K2 S T → (r = fI S v0 2) → (((K7 S T ∧ K8 S T) ∧ (K9 false LA S T ∧ K9 true LB S T)) ∧ (KJ LWJ S T ∧ K9 false LWL S T)) → Q r T) : P_X11_where v0 Q S := cm_X11_where (cm_X11_where (Q3 := fun r T => (IV T ∧ Gr S T ∧ (FRI [(11, 0)] [] S T) ∧ K2 S T ∧ ((r = fI S v0 2))) ∧ ((K7 S T ∧ K8 S T) ∧ (K9 false LA S T ∧ K9 true LB S T)) ∧ (KJ LWJ S T ∧ K9 false LWL S T)) (cm_X11_where (Q3 := fun r T => (IV T ∧ Gr S T ∧ (FRI [(11, 0)] [] S T) ∧ K2 S T ∧ ((r = fI S v0 2))) ∧ (K7 S T ∧ K8 S T) ∧ (K9 false LA S T ∧ K9 true LB S T)) (cm_X11_where (Q3 := fun r T => (IV T ∧ Gr S T ∧ (FRI [(11, 0)] [] S T) ∧ K2 S T ∧ ((r = fI S v0 2))) ∧ K7 S T ∧ K8 S T) (kw_X11_where (mv_X11_where (Q := fun r T => IV T ∧ Gr S T ∧ (FRI [(11, 0)] [] S T) ∧ K2 S T ∧ ((r = fI S v0 2))) hI o_v0 (fun r T h0 h1 h2 h3 h4 => ⟨h0, h1, h2, h3, h4⟩))) (kx_X11_where (mv_X11_where (Q := fun r T => IV T ∧ Gr S T ∧ (FRI [(11, 0)] [] S T) ∧ K2 S T ∧ ((r = fI S v0 2))) hI o_v0 (fun r T h0 h1 h2 h3 h4 => ⟨h0, h1, h2, h3, h4⟩))) (fun r T a b => ⟨a.1, a.2, b.2⟩)) (cm_X11_where (Q3 := fun r T => (IV T ∧ Gr S T ∧ (FRI [(11, 0)] [] S T) ∧ K2 S T ∧ ((r = fI S v0 2))) ∧ (K9 false LA S T ∧ K9 true LB S T)) (ky_X11_where (b := false) (L := LA) (by decide) (by decide) (fun _ => rfl) (mv_X11_where (Q := fun r T => IV T ∧ Gr S T ∧ (FRI [(11, 0)] [] S T) ∧ K2 S T ∧ ((r = fI S v0 2))) hI o_v0 (fun r T h0 h1 h2 h3 h4 => ⟨h0, h1, h2, h3, h4⟩))) (ky_X11_where (b := true) (L := LB) (by decide) (by decide) (fun z => z.elim) (mv_X11_where (Q := fun r T => IV T ∧ Gr S T ∧ (FRI [(11, 0)] [] S T) ∧ K2 S T ∧ ((r = fI S v0 2))) hI o_v0 (fun r T h0 h1 h2 h3 h4 => ⟨h0, h1, h2, h3, h4⟩))) (fun r T a b => ⟨a.1, a.2, b.2⟩)) (fun r T a b => ⟨a.1, a.2, b.2⟩)) (cm_X11_where (Q3 := fun r T => (IV T ∧ Gr S T ∧ (FRI [(11, 0)] [] S T) ∧ K2 S T ∧ ((r = fI S v0 2))) ∧ (KJ LWJ S T ∧ K9 false LWL S T)) (kj_X11_where (L := LWJ) (by decide) (by decide) (mv_X11_where (Q := fun r T => IV T ∧ Gr S T ∧ (FRI [(11, 0)] [] S T) ∧ K2 S T ∧ ((r = fI S v0 2))) hI o_v0 (fun r T h0 h1 h2 h3 h4 => ⟨h0, h1, h2, h3, h4⟩))) (ky_X11_where (b := false) (L := LWL) (by decide) (by decide) (fun _ => rfl) (mv_X11_where (Q := fun r T => IV T ∧ Gr S T ∧ (FRI [(11, 0)] [] S T) ∧ K2 S T ∧ ((r = fI S v0 2))) hI o_v0 (fun r T h0 h1 h2 h3 h4 => ⟨h0, h1, h2, h3, h4⟩))) (fun r T a b => ⟨a.1, a.2, b.2⟩)) (fun r T a b => ⟨a.1, a.2, b.2⟩)) (mv_X11_where (Q := fun r T => IV T ∧ Gr S T ∧ (FRI [(11, 0)] [] S T) ∧ K2 S T ∧ ((r = fI S v0 2))) hI o_v0 (fun r T h0 h1 h2 h3 h4 => ⟨h0, h1, h2, h3, h4⟩)) (fun r T h _ => hq r T h.1.1 h.1.2.1 h.1.2.2.1 h.1.2.2.2.1 h.1.2.2.2.2 h.2)
theorem mz_X11_worst {v0 : Nat} {v1 : Int32} {v2 : Int32} {v3 : Int32} {v4 : Int32} {Q : Int32 → HS → Prop} {S : HS} (hI : IV S) (o_v0 : ob S v0 11)  (hq : ∀ (r : Int32) (T : HS), IV T → Gr S T → FRI [(11, 0), (11, 1), (11, 2)] [] S T → K2 S T → (NFq 11 2 c11 v0 T) → (((K7 S T ∧ K8 S T) ∧ (K9 false LA S T ∧ K9 true LB S T)) ∧ (KJ LWJ S T ∧ K9 false LWL S T)) → Q r T) : P_X11_worst v0 v1 v2 v3 v4 Q S := cm_X11_worst (cm_X11_worst (Q3 := fun r T => (IV T ∧ Gr S T ∧ (FRI [(11, 0), (11, 1), (11, 2)] [] S T) ∧ K2 S T ∧ ((NFq 11 2 c11 v0 T))) ∧ ((K7 S T ∧ K8 S T) ∧ (K9 false LA S T ∧ K9 true LB S T)) ∧ (KJ LWJ S T ∧ K9 false LWL S T)) (cm_X11_worst (Q3 := fun r T => (IV T ∧ Gr S T ∧ (FRI [(11, 0), (11, 1), (11, 2)] [] S T) ∧ K2 S T ∧ ((NFq 11 2 c11 v0 T))) ∧ (K7 S T ∧ K8 S T) ∧ (K9 false LA S T ∧ K9 true LB S T)) (cm_X11_worst (Q3 := fun r T => (IV T ∧ Gr S T ∧ (FRI [(11, 0), (11, 1), (11, 2)] [] S T) ∧ K2 S T ∧ ((NFq 11 2 c11 v0 T))) ∧ K7 S T ∧ K8 S T) (kw_X11_worst (mn_X11_worst (Q := fun r T => IV T ∧ Gr S T ∧ (FRI [(11, 0), (11, 1), (11, 2)] [] S T) ∧ K2 S T ∧ ((NFq 11 2 c11 v0 T))) hI o_v0 (fun r T h0 h1 h2 h3 h4 => ⟨h0, h1, h2, h3, h4⟩))) (kx_X11_worst (mn_X11_worst (Q := fun r T => IV T ∧ Gr S T ∧ (FRI [(11, 0), (11, 1), (11, 2)] [] S T) ∧ K2 S T ∧ ((NFq 11 2 c11 v0 T))) hI o_v0 (fun r T h0 h1 h2 h3 h4 => ⟨h0, h1, h2, h3, h4⟩))) (fun r T a b => ⟨a.1, a.2, b.2⟩)) (cm_X11_worst (Q3 := fun r T => (IV T ∧ Gr S T ∧ (FRI [(11, 0), (11, 1), (11, 2)] [] S T) ∧ K2 S T ∧ ((NFq 11 2 c11 v0 T))) ∧ (K9 false LA S T ∧ K9 true LB S T)) (ky_X11_worst (b := false) (L := LA) (by decide) (by decide) (fun _ => rfl) (mn_X11_worst (Q := fun r T => IV T ∧ Gr S T ∧ (FRI [(11, 0), (11, 1), (11, 2)] [] S T) ∧ K2 S T ∧ ((NFq 11 2 c11 v0 T))) hI o_v0 (fun r T h0 h1 h2 h3 h4 => ⟨h0, h1, h2, h3, h4⟩))) (ky_X11_worst (b := true) (L := LB) (by decide) (by decide) (fun z => z.elim) (mn_X11_worst (Q := fun r T => IV T ∧ Gr S T ∧ (FRI [(11, 0), (11, 1), (11, 2)] [] S T) ∧ K2 S T ∧ ((NFq 11 2 c11 v0 T))) hI o_v0 (fun r T h0 h1 h2 h3 h4 => ⟨h0, h1, h2, h3, h4⟩))) (fun r T a b => ⟨a.1, a.2, b.2⟩)) (fun r T a b => ⟨a.1, a.2, b.2⟩)) (cm_X11_worst (Q3 := fun r T => (IV T ∧ Gr S T ∧ (FRI [(11, 0), (11, 1), (11, 2)] [] S T) ∧ K2 S T ∧ ((NFq 11 2 c11 v0 T))) ∧ (KJ LWJ S T ∧ K9 false LWL S T)) (kj_X11_worst (L := LWJ) (by decide) (by decide) (mn_X11_worst (Q := fun r T => IV T ∧ Gr S T ∧ (FRI [(11, 0), (11, 1), (11, 2)] [] S T) ∧ K2 S T ∧ ((NFq 11 2 c11 v0 T))) hI o_v0 (fun r T h0 h1 h2 h3 h4 => ⟨h0, h1, h2, h3, h4⟩))) (ky_X11_worst (b := false) (L := LWL) (by decide) (by decide) (fun _ => rfl) (mn_X11_worst (Q := fun r T => IV T ∧ Gr S T ∧ (FRI [(11, 0), (11, 1), (11, 2)] [] S T) ∧ K2 S T ∧ ((NFq 11 2 c11 v0 T))) hI o_v0 (fun r T h0 h1 h2 h3 h4 => ⟨h0, h1, h2, h3, h4⟩))) (fun r T a b => ⟨a.1, a.2, b.2⟩)) (fun r T a b => ⟨a.1, a.2, b.2⟩)) (mn_X11_worst (Q := fun r T => IV T ∧ Gr S T ∧ (FRI [(11, 0), (11, 1), (11, 2)] [] S T) ∧ K2 S T ∧ ((NFq 11 2 c11 v0 T))) hI o_v0 (fun r T h0 h1 h2 h3 h4 => ⟨h0, h1, h2, h3, h4⟩)) (fun r T h _ => hq r T h.1.1 h.1.2.1 h.1.2.2.1 h.1.2.2.2.1 h.1.2.2.2.2 h.2)
theorem mz_X9_air {v0 : Nat} {v1 : Int32} {v2 : Int32} {v3 : Int32} {Q : Int32 → HS → Prop} {S : HS} (hI : IV S) (o_v0 : ob S v0 9)  (hq : ∀ (r : Int32) (T : HS), IV T → Gr S T → FRI [(9, 9)] [] S T → K2 S T → (NFq 9 9 c9 v0 T) → (((K7 S T ∧ K8 S T) ∧ (K9 false LA S T ∧ K9 true LB S T)) ∧ (KJ LWJ S T ∧ K9 false LWL S T)) → Q r T) : P_X9_air v0 v1 v2 v3 Q S := cm_X9_air (cm_X9_air (Q3 := fun r T => (IV T ∧ Gr S T ∧ (FRI [(9, 9)] [] S T) ∧ K2 S T ∧ ((NFq 9 9 c9 v0 T))) ∧ ((K7 S T ∧ K8 S T) ∧ (K9 false LA S T ∧ K9 true LB S T)) ∧ (KJ LWJ S T ∧ K9 false LWL S T)) (cm_X9_air (Q3 := fun r T => (IV T ∧ Gr S T ∧ (FRI [(9, 9)] [] S T) ∧ K2 S T ∧ ((NFq 9 9 c9 v0 T))) ∧ (K7 S T ∧ K8 S T) ∧ (K9 false LA S T ∧ K9 true LB S T)) (cm_X9_air (Q3 := fun r T => (IV T ∧ Gr S T ∧ (FRI [(9, 9)] [] S T) ∧ K2 S T ∧ ((NFq 9 9 c9 v0 T))) ∧ K7 S T ∧ K8 S T) (kw_X9_air (mn_X9_air (Q := fun r T => IV T ∧ Gr S T ∧ (FRI [(9, 9)] [] S T) ∧ K2 S T ∧ ((NFq 9 9 c9 v0 T))) hI o_v0 (fun r T h0 h1 h2 h3 h4 => ⟨h0, h1, h2, h3, h4⟩))) (kx_X9_air (mn_X9_air (Q := fun r T => IV T ∧ Gr S T ∧ (FRI [(9, 9)] [] S T) ∧ K2 S T ∧ ((NFq 9 9 c9 v0 T))) hI o_v0 (fun r T h0 h1 h2 h3 h4 => ⟨h0, h1, h2, h3, h4⟩))) (fun r T a b => ⟨a.1, a.2, b.2⟩)) (cm_X9_air (Q3 := fun r T => (IV T ∧ Gr S T ∧ (FRI [(9, 9)] [] S T) ∧ K2 S T ∧ ((NFq 9 9 c9 v0 T))) ∧ (K9 false LA S T ∧ K9 true LB S T)) (ky_X9_air (b := false) (L := LA) (by decide) (by decide) (fun _ => rfl) (mn_X9_air (Q := fun r T => IV T ∧ Gr S T ∧ (FRI [(9, 9)] [] S T) ∧ K2 S T ∧ ((NFq 9 9 c9 v0 T))) hI o_v0 (fun r T h0 h1 h2 h3 h4 => ⟨h0, h1, h2, h3, h4⟩))) (ky_X9_air (b := true) (L := LB) (by decide) (by decide) (fun z => z.elim) (mn_X9_air (Q := fun r T => IV T ∧ Gr S T ∧ (FRI [(9, 9)] [] S T) ∧ K2 S T ∧ ((NFq 9 9 c9 v0 T))) hI o_v0 (fun r T h0 h1 h2 h3 h4 => ⟨h0, h1, h2, h3, h4⟩))) (fun r T a b => ⟨a.1, a.2, b.2⟩)) (fun r T a b => ⟨a.1, a.2, b.2⟩)) (cm_X9_air (Q3 := fun r T => (IV T ∧ Gr S T ∧ (FRI [(9, 9)] [] S T) ∧ K2 S T ∧ ((NFq 9 9 c9 v0 T))) ∧ (KJ LWJ S T ∧ K9 false LWL S T)) (kj_X9_air (L := LWJ) (by decide) (by decide) (mn_X9_air (Q := fun r T => IV T ∧ Gr S T ∧ (FRI [(9, 9)] [] S T) ∧ K2 S T ∧ ((NFq 9 9 c9 v0 T))) hI o_v0 (fun r T h0 h1 h2 h3 h4 => ⟨h0, h1, h2, h3, h4⟩))) (ky_X9_air (b := false) (L := LWL) (by decide) (by decide) (fun _ => rfl) (mn_X9_air (Q := fun r T => IV T ∧ Gr S T ∧ (FRI [(9, 9)] [] S T) ∧ K2 S T ∧ ((NFq 9 9 c9 v0 T))) hI o_v0 (fun r T h0 h1 h2 h3 h4 => ⟨h0, h1, h2, h3, h4⟩))) (fun r T a b => ⟨a.1, a.2, b.2⟩)) (fun r T a b => ⟨a.1, a.2, b.2⟩)) (mn_X9_air (Q := fun r T => IV T ∧ Gr S T ∧ (FRI [(9, 9)] [] S T) ∧ K2 S T ∧ ((NFq 9 9 c9 v0 T))) hI o_v0 (fun r T h0 h1 h2 h3 h4 => ⟨h0, h1, h2, h3, h4⟩)) (fun r T h _ => hq r T h.1.1 h.1.2.1 h.1.2.2.1 h.1.2.2.2.1 h.1.2.2.2.2 h.2)
theorem mt_X9_back {v0 : Nat} {v1 : Int32} {Q : Int32 → HS → Prop} {S : HS} (hI : IV S) (o_v0 : ob S v0 9) {rr w1 w2 l9 p9 q9 : Nat} {A : AS} {G : GC} (J : CJ v0 rr w1 w2 S) (hc : Cnt w1 A S) (ct : CtB w1 A G S S) (ab : ABd A) (gb : GBd A G) (lg : LG v0 l9 p9 q9 S) {dy : Nat} {D : DY} (e6 : fR S v0 6 = some dy) (cd : CDd dy D S) (db : DBd A D) (hq : ∀ (r : Int32) (T : HS), IV T → Gr S T → FRI [(0, 2), (2, 0), (2, 1), (9, 9)] [] S T → bl r → K2 S T → (NFq 9 9 c9 v0 T) → ((((K7 S T ∧ K8 S T) ∧ K9 false LA S T) ∧ (KJ LWJ S T ∧ K9 false LWL S T)) ∧ ans (¬ v1 < 0 ∧ v1 < nI (dK D)) r ∧ CDd dy (bkF D v1) T) → Q r T) : P_X9_back v0 v1 Q S := cm_X9_back (cm_X9_back (Q3 := fun r T => (IV T ∧ Gr S T ∧ (FRI [(0, 2), (2, 0), (2, 1), (9, 9)] [] S T) ∧ bl r ∧ K2 S T ∧ ((NFq 9 9 c9 v0 T))) ∧ (((K7 S T ∧ K8 S T) ∧ K9 false LA S T) ∧ (KJ LWJ S T ∧ K9 false LWL S T)) ∧ ans (¬ v1 < 0 ∧ v1 < nI (dK D)) r ∧ CDd dy (bkF D v1) T) (cm_X9_back (Q3 := fun r T => (IV T ∧ Gr S T ∧ (FRI [(0, 2), (2, 0), (2, 1), (9, 9)] [] S T) ∧ bl r ∧ K2 S T ∧ ((NFq 9 9 c9 v0 T))) ∧ ((K7 S T ∧ K8 S T) ∧ K9 false LA S T) ∧ (KJ LWJ S T ∧ K9 false LWL S T)) (cm_X9_back (Q3 := fun r T => (IV T ∧ Gr S T ∧ (FRI [(0, 2), (2, 0), (2, 1), (9, 9)] [] S T) ∧ bl r ∧ K2 S T ∧ ((NFq 9 9 c9 v0 T))) ∧ (K7 S T ∧ K8 S T) ∧ K9 false LA S T) (cm_X9_back (Q3 := fun r T => (IV T ∧ Gr S T ∧ (FRI [(0, 2), (2, 0), (2, 1), (9, 9)] [] S T) ∧ bl r ∧ K2 S T ∧ ((NFq 9 9 c9 v0 T))) ∧ K7 S T ∧ K8 S T) (kw_X9_back (mn_X9_back (Q := fun r T => IV T ∧ Gr S T ∧ (FRI [(0, 2), (2, 0), (2, 1), (9, 9)] [] S T) ∧ bl r ∧ K2 S T ∧ ((NFq 9 9 c9 v0 T))) hI o_v0 (fun r T h0 h1 h2 h3 h4 h5 => ⟨h0, h1, h2, h3, h4, h5⟩))) (kx_X9_back (mn_X9_back (Q := fun r T => IV T ∧ Gr S T ∧ (FRI [(0, 2), (2, 0), (2, 1), (9, 9)] [] S T) ∧ bl r ∧ K2 S T ∧ ((NFq 9 9 c9 v0 T))) hI o_v0 (fun r T h0 h1 h2 h3 h4 h5 => ⟨h0, h1, h2, h3, h4, h5⟩))) (fun r T a b => ⟨a.1, a.2, b.2⟩)) (ky_X9_back (b := false) (L := LA) (by decide) (by decide) (fun _ => rfl) (mn_X9_back (Q := fun r T => IV T ∧ Gr S T ∧ (FRI [(0, 2), (2, 0), (2, 1), (9, 9)] [] S T) ∧ bl r ∧ K2 S T ∧ ((NFq 9 9 c9 v0 T))) hI o_v0 (fun r T h0 h1 h2 h3 h4 h5 => ⟨h0, h1, h2, h3, h4, h5⟩))) (fun r T a b => ⟨a.1, a.2, b.2⟩)) (cm_X9_back (Q3 := fun r T => (IV T ∧ Gr S T ∧ (FRI [(0, 2), (2, 0), (2, 1), (9, 9)] [] S T) ∧ bl r ∧ K2 S T ∧ ((NFq 9 9 c9 v0 T))) ∧ (KJ LWJ S T ∧ K9 false LWL S T)) (kj_X9_back (L := LWJ) (by decide) (by decide) (mn_X9_back (Q := fun r T => IV T ∧ Gr S T ∧ (FRI [(0, 2), (2, 0), (2, 1), (9, 9)] [] S T) ∧ bl r ∧ K2 S T ∧ ((NFq 9 9 c9 v0 T))) hI o_v0 (fun r T h0 h1 h2 h3 h4 h5 => ⟨h0, h1, h2, h3, h4, h5⟩))) (ky_X9_back (b := false) (L := LWL) (by decide) (by decide) (fun _ => rfl) (mn_X9_back (Q := fun r T => IV T ∧ Gr S T ∧ (FRI [(0, 2), (2, 0), (2, 1), (9, 9)] [] S T) ∧ bl r ∧ K2 S T ∧ ((NFq 9 9 c9 v0 T))) hI o_v0 (fun r T h0 h1 h2 h3 h4 h5 => ⟨h0, h1, h2, h3, h4, h5⟩))) (fun r T a b => ⟨a.1, a.2, b.2⟩)) (fun r T a b => ⟨a.1, a.2, b.2⟩)) (tl_X9_back J.2.2.2.1 e6 cd (mn_X9_back (Q := fun r T => IV T ∧ Gr S T ∧ (FRI [(0, 2), (2, 0), (2, 1), (9, 9)] [] S T) ∧ bl r ∧ K2 S T ∧ ((NFq 9 9 c9 v0 T))) hI o_v0 (fun r T h0 h1 h2 h3 h4 h5 => ⟨h0, h1, h2, h3, h4, h5⟩))) (fun r T a b => ⟨a.1, a.2, b.2⟩)) (mn_X9_back (Q := fun r T => IV T ∧ Gr S T ∧ (FRI [(0, 2), (2, 0), (2, 1), (9, 9)] [] S T) ∧ bl r ∧ K2 S T ∧ ((NFq 9 9 c9 v0 T))) hI o_v0 (fun r T h0 h1 h2 h3 h4 h5 => ⟨h0, h1, h2, h3, h4, h5⟩)) (fun r T h _ => hq r T h.1.1 h.1.2.1 h.1.2.2.1 h.1.2.2.2.1 h.1.2.2.2.2.1 h.1.2.2.2.2.2 h.2)
theorem mz_X9_best {v0 : Nat} {v1 : Int32} {v2 : Int32} {v3 : Int32} {v4 : Int32} {Q : Int32 → HS → Prop} {S : HS} (hI : IV S) (o_v0 : ob S v0 9)  (hq : ∀ (r : Int32) (T : HS), IV T → Gr S T → FRI [(9, 9)] [] S T → K2 S T → (NFq 9 9 c9 v0 T) → (((K7 S T ∧ K8 S T) ∧ (K9 false LA S T ∧ K9 true LB S T)) ∧ (KJ LWJ S T ∧ K9 false LWL S T)) → Q r T) : P_X9_best v0 v1 v2 v3 v4 Q S := cm_X9_best (cm_X9_best (Q3 := fun r T => (IV T ∧ Gr S T ∧ (FRI [(9, 9)] [] S T) ∧ K2 S T ∧ ((NFq 9 9 c9 v0 T))) ∧ ((K7 S T ∧ K8 S T) ∧ (K9 false LA S T ∧ K9 true LB S T)) ∧ (KJ LWJ S T ∧ K9 false LWL S T)) (cm_X9_best (Q3 := fun r T => (IV T ∧ Gr S T ∧ (FRI [(9, 9)] [] S T) ∧ K2 S T ∧ ((NFq 9 9 c9 v0 T))) ∧ (K7 S T ∧ K8 S T) ∧ (K9 false LA S T ∧ K9 true LB S T)) (cm_X9_best (Q3 := fun r T => (IV T ∧ Gr S T ∧ (FRI [(9, 9)] [] S T) ∧ K2 S T ∧ ((NFq 9 9 c9 v0 T))) ∧ K7 S T ∧ K8 S T) (kw_X9_best (mn_X9_best (Q := fun r T => IV T ∧ Gr S T ∧ (FRI [(9, 9)] [] S T) ∧ K2 S T ∧ ((NFq 9 9 c9 v0 T))) hI o_v0 (fun r T h0 h1 h2 h3 h4 => ⟨h0, h1, h2, h3, h4⟩))) (kx_X9_best (mn_X9_best (Q := fun r T => IV T ∧ Gr S T ∧ (FRI [(9, 9)] [] S T) ∧ K2 S T ∧ ((NFq 9 9 c9 v0 T))) hI o_v0 (fun r T h0 h1 h2 h3 h4 => ⟨h0, h1, h2, h3, h4⟩))) (fun r T a b => ⟨a.1, a.2, b.2⟩)) (cm_X9_best (Q3 := fun r T => (IV T ∧ Gr S T ∧ (FRI [(9, 9)] [] S T) ∧ K2 S T ∧ ((NFq 9 9 c9 v0 T))) ∧ (K9 false LA S T ∧ K9 true LB S T)) (ky_X9_best (b := false) (L := LA) (by decide) (by decide) (fun _ => rfl) (mn_X9_best (Q := fun r T => IV T ∧ Gr S T ∧ (FRI [(9, 9)] [] S T) ∧ K2 S T ∧ ((NFq 9 9 c9 v0 T))) hI o_v0 (fun r T h0 h1 h2 h3 h4 => ⟨h0, h1, h2, h3, h4⟩))) (ky_X9_best (b := true) (L := LB) (by decide) (by decide) (fun z => z.elim) (mn_X9_best (Q := fun r T => IV T ∧ Gr S T ∧ (FRI [(9, 9)] [] S T) ∧ K2 S T ∧ ((NFq 9 9 c9 v0 T))) hI o_v0 (fun r T h0 h1 h2 h3 h4 => ⟨h0, h1, h2, h3, h4⟩))) (fun r T a b => ⟨a.1, a.2, b.2⟩)) (fun r T a b => ⟨a.1, a.2, b.2⟩)) (cm_X9_best (Q3 := fun r T => (IV T ∧ Gr S T ∧ (FRI [(9, 9)] [] S T) ∧ K2 S T ∧ ((NFq 9 9 c9 v0 T))) ∧ (KJ LWJ S T ∧ K9 false LWL S T)) (kj_X9_best (L := LWJ) (by decide) (by decide) (mn_X9_best (Q := fun r T => IV T ∧ Gr S T ∧ (FRI [(9, 9)] [] S T) ∧ K2 S T ∧ ((NFq 9 9 c9 v0 T))) hI o_v0 (fun r T h0 h1 h2 h3 h4 => ⟨h0, h1, h2, h3, h4⟩))) (ky_X9_best (b := false) (L := LWL) (by decide) (by decide) (fun _ => rfl) (mn_X9_best (Q := fun r T => IV T ∧ Gr S T ∧ (FRI [(9, 9)] [] S T) ∧ K2 S T ∧ ((NFq 9 9 c9 v0 T))) hI o_v0 (fun r T h0 h1 h2 h3 h4 => ⟨h0, h1, h2, h3, h4⟩))) (fun r T a b => ⟨a.1, a.2, b.2⟩)) (fun r T a b => ⟨a.1, a.2, b.2⟩)) (mn_X9_best (Q := fun r T => IV T ∧ Gr S T ∧ (FRI [(9, 9)] [] S T) ∧ K2 S T ∧ ((NFq 9 9 c9 v0 T))) hI o_v0 (fun r T h0 h1 h2 h3 h4 => ⟨h0, h1, h2, h3, h4⟩)) (fun r T h _ => hq r T h.1.1 h.1.2.1 h.1.2.2.1 h.1.2.2.2.1 h.1.2.2.2.2 h.2)
theorem mt_X9_day {v0 : Nat} {v1 : Int32} {v2 : Int32} {v3 : Int32} {v4 : Int32} {Q : Int32 → HS → Prop} {S : HS} (hI : IV S) (o_v0 : ob S v0 9) {rr w1 w2 l9 p9 q9 : Nat} {A : AS} {G : GC} (J : CJ v0 rr w1 w2 S) (hc : Cnt w1 A S) (ct : CtB w1 A G S S) (ab : ABd A) (gb : GBd A G) (lg : LG v0 l9 p9 q9 S) {dy : Nat} {D : DY} (e6 : fR S v0 6 = some dy) (cd : CDd dy D S) (db : DBd A D) (hq : ∀ (r : Int32) (T : HS), IV T → Gr S T → FRI [(0, 0), (0, 1), (0, 2), (0, 3), (2, 0), (2, 1), (9, 9)] [] S T → K2 S T → (NFq 9 9 c9 v0 T) → ((((K7 S T ∧ K8 S T) ∧ K9 false LA S T) ∧ (KJ LWJ S T ∧ K9 false LWL S T)) ∧ r = tellday A G v1 v2 v3 v4 ∧ CDd dy (nxday A G D v1 v2 v3 v4) T) → Q r T) : P_X9_day v0 v1 v2 v3 v4 Q S := cm_X9_day (cm_X9_day (Q3 := fun r T => (IV T ∧ Gr S T ∧ (FRI [(0, 0), (0, 1), (0, 2), (0, 3), (2, 0), (2, 1), (9, 9)] [] S T) ∧ K2 S T ∧ ((NFq 9 9 c9 v0 T))) ∧ (((K7 S T ∧ K8 S T) ∧ K9 false LA S T) ∧ (KJ LWJ S T ∧ K9 false LWL S T)) ∧ r = tellday A G v1 v2 v3 v4 ∧ CDd dy (nxday A G D v1 v2 v3 v4) T) (cm_X9_day (Q3 := fun r T => (IV T ∧ Gr S T ∧ (FRI [(0, 0), (0, 1), (0, 2), (0, 3), (2, 0), (2, 1), (9, 9)] [] S T) ∧ K2 S T ∧ ((NFq 9 9 c9 v0 T))) ∧ ((K7 S T ∧ K8 S T) ∧ K9 false LA S T) ∧ (KJ LWJ S T ∧ K9 false LWL S T)) (cm_X9_day (Q3 := fun r T => (IV T ∧ Gr S T ∧ (FRI [(0, 0), (0, 1), (0, 2), (0, 3), (2, 0), (2, 1), (9, 9)] [] S T) ∧ K2 S T ∧ ((NFq 9 9 c9 v0 T))) ∧ (K7 S T ∧ K8 S T) ∧ K9 false LA S T) (cm_X9_day (Q3 := fun r T => (IV T ∧ Gr S T ∧ (FRI [(0, 0), (0, 1), (0, 2), (0, 3), (2, 0), (2, 1), (9, 9)] [] S T) ∧ K2 S T ∧ ((NFq 9 9 c9 v0 T))) ∧ K7 S T ∧ K8 S T) (kw_X9_day (mn_X9_day (Q := fun r T => IV T ∧ Gr S T ∧ (FRI [(0, 0), (0, 1), (0, 2), (0, 3), (2, 0), (2, 1), (9, 9)] [] S T) ∧ K2 S T ∧ ((NFq 9 9 c9 v0 T))) hI o_v0 (fun r T h0 h1 h2 h3 h4 => ⟨h0, h1, h2, h3, h4⟩))) (kx_X9_day (mn_X9_day (Q := fun r T => IV T ∧ Gr S T ∧ (FRI [(0, 0), (0, 1), (0, 2), (0, 3), (2, 0), (2, 1), (9, 9)] [] S T) ∧ K2 S T ∧ ((NFq 9 9 c9 v0 T))) hI o_v0 (fun r T h0 h1 h2 h3 h4 => ⟨h0, h1, h2, h3, h4⟩))) (fun r T a b => ⟨a.1, a.2, b.2⟩)) (ky_X9_day (b := false) (L := LA) (by decide) (by decide) (fun _ => rfl) (mn_X9_day (Q := fun r T => IV T ∧ Gr S T ∧ (FRI [(0, 0), (0, 1), (0, 2), (0, 3), (2, 0), (2, 1), (9, 9)] [] S T) ∧ K2 S T ∧ ((NFq 9 9 c9 v0 T))) hI o_v0 (fun r T h0 h1 h2 h3 h4 => ⟨h0, h1, h2, h3, h4⟩))) (fun r T a b => ⟨a.1, a.2, b.2⟩)) (cm_X9_day (Q3 := fun r T => (IV T ∧ Gr S T ∧ (FRI [(0, 0), (0, 1), (0, 2), (0, 3), (2, 0), (2, 1), (9, 9)] [] S T) ∧ K2 S T ∧ ((NFq 9 9 c9 v0 T))) ∧ (KJ LWJ S T ∧ K9 false LWL S T)) (kj_X9_day (L := LWJ) (by decide) (by decide) (mn_X9_day (Q := fun r T => IV T ∧ Gr S T ∧ (FRI [(0, 0), (0, 1), (0, 2), (0, 3), (2, 0), (2, 1), (9, 9)] [] S T) ∧ K2 S T ∧ ((NFq 9 9 c9 v0 T))) hI o_v0 (fun r T h0 h1 h2 h3 h4 => ⟨h0, h1, h2, h3, h4⟩))) (ky_X9_day (b := false) (L := LWL) (by decide) (by decide) (fun _ => rfl) (mn_X9_day (Q := fun r T => IV T ∧ Gr S T ∧ (FRI [(0, 0), (0, 1), (0, 2), (0, 3), (2, 0), (2, 1), (9, 9)] [] S T) ∧ K2 S T ∧ ((NFq 9 9 c9 v0 T))) hI o_v0 (fun r T h0 h1 h2 h3 h4 => ⟨h0, h1, h2, h3, h4⟩))) (fun r T a b => ⟨a.1, a.2, b.2⟩)) (fun r T a b => ⟨a.1, a.2, b.2⟩)) (tl_X9_day hI J hc ct ab e6 cd (mn_X9_day (Q := fun r T => IV T ∧ Gr S T ∧ (FRI [(0, 0), (0, 1), (0, 2), (0, 3), (2, 0), (2, 1), (9, 9)] [] S T) ∧ K2 S T ∧ ((NFq 9 9 c9 v0 T))) hI o_v0 (fun r T h0 h1 h2 h3 h4 => ⟨h0, h1, h2, h3, h4⟩))) (fun r T a b => ⟨a.1, a.2, b.2⟩)) (mn_X9_day (Q := fun r T => IV T ∧ Gr S T ∧ (FRI [(0, 0), (0, 1), (0, 2), (0, 3), (2, 0), (2, 1), (9, 9)] [] S T) ∧ K2 S T ∧ ((NFq 9 9 c9 v0 T))) hI o_v0 (fun r T h0 h1 h2 h3 h4 => ⟨h0, h1, h2, h3, h4⟩)) (fun r T h _ => hq r T h.1.1 h.1.2.1 h.1.2.2.1 h.1.2.2.2.1 h.1.2.2.2.2 h.2)
theorem mz_X9_driest {v0 : Nat} {v1 : Int32} {v2 : Int32} {v3 : Int32} {Q : Int32 → HS → Prop} {S : HS} (hI : IV S) (o_v0 : ob S v0 9)  (hq : ∀ (r : Int32) (T : HS), IV T → Gr S T → FRI [(9, 9)] [] S T → K2 S T → (NFq 9 9 c9 v0 T) → (((K7 S T ∧ K8 S T) ∧ (K9 false LA S T ∧ K9 true LB S T)) ∧ (KJ LWJ S T ∧ K9 false LWL S T)) → Q r T) : P_X9_driest v0 v1 v2 v3 Q S := cm_X9_driest (cm_X9_driest (Q3 := fun r T => (IV T ∧ Gr S T ∧ (FRI [(9, 9)] [] S T) ∧ K2 S T ∧ ((NFq 9 9 c9 v0 T))) ∧ ((K7 S T ∧ K8 S T) ∧ (K9 false LA S T ∧ K9 true LB S T)) ∧ (KJ LWJ S T ∧ K9 false LWL S T)) (cm_X9_driest (Q3 := fun r T => (IV T ∧ Gr S T ∧ (FRI [(9, 9)] [] S T) ∧ K2 S T ∧ ((NFq 9 9 c9 v0 T))) ∧ (K7 S T ∧ K8 S T) ∧ (K9 false LA S T ∧ K9 true LB S T)) (cm_X9_driest (Q3 := fun r T => (IV T ∧ Gr S T ∧ (FRI [(9, 9)] [] S T) ∧ K2 S T ∧ ((NFq 9 9 c9 v0 T))) ∧ K7 S T ∧ K8 S T) (kw_X9_driest (mn_X9_driest (Q := fun r T => IV T ∧ Gr S T ∧ (FRI [(9, 9)] [] S T) ∧ K2 S T ∧ ((NFq 9 9 c9 v0 T))) hI o_v0 (fun r T h0 h1 h2 h3 h4 => ⟨h0, h1, h2, h3, h4⟩))) (kx_X9_driest (mn_X9_driest (Q := fun r T => IV T ∧ Gr S T ∧ (FRI [(9, 9)] [] S T) ∧ K2 S T ∧ ((NFq 9 9 c9 v0 T))) hI o_v0 (fun r T h0 h1 h2 h3 h4 => ⟨h0, h1, h2, h3, h4⟩))) (fun r T a b => ⟨a.1, a.2, b.2⟩)) (cm_X9_driest (Q3 := fun r T => (IV T ∧ Gr S T ∧ (FRI [(9, 9)] [] S T) ∧ K2 S T ∧ ((NFq 9 9 c9 v0 T))) ∧ (K9 false LA S T ∧ K9 true LB S T)) (ky_X9_driest (b := false) (L := LA) (by decide) (by decide) (fun _ => rfl) (mn_X9_driest (Q := fun r T => IV T ∧ Gr S T ∧ (FRI [(9, 9)] [] S T) ∧ K2 S T ∧ ((NFq 9 9 c9 v0 T))) hI o_v0 (fun r T h0 h1 h2 h3 h4 => ⟨h0, h1, h2, h3, h4⟩))) (ky_X9_driest (b := true) (L := LB) (by decide) (by decide) (fun z => z.elim) (mn_X9_driest (Q := fun r T => IV T ∧ Gr S T ∧ (FRI [(9, 9)] [] S T) ∧ K2 S T ∧ ((NFq 9 9 c9 v0 T))) hI o_v0 (fun r T h0 h1 h2 h3 h4 => ⟨h0, h1, h2, h3, h4⟩))) (fun r T a b => ⟨a.1, a.2, b.2⟩)) (fun r T a b => ⟨a.1, a.2, b.2⟩)) (cm_X9_driest (Q3 := fun r T => (IV T ∧ Gr S T ∧ (FRI [(9, 9)] [] S T) ∧ K2 S T ∧ ((NFq 9 9 c9 v0 T))) ∧ (KJ LWJ S T ∧ K9 false LWL S T)) (kj_X9_driest (L := LWJ) (by decide) (by decide) (mn_X9_driest (Q := fun r T => IV T ∧ Gr S T ∧ (FRI [(9, 9)] [] S T) ∧ K2 S T ∧ ((NFq 9 9 c9 v0 T))) hI o_v0 (fun r T h0 h1 h2 h3 h4 => ⟨h0, h1, h2, h3, h4⟩))) (ky_X9_driest (b := false) (L := LWL) (by decide) (by decide) (fun _ => rfl) (mn_X9_driest (Q := fun r T => IV T ∧ Gr S T ∧ (FRI [(9, 9)] [] S T) ∧ K2 S T ∧ ((NFq 9 9 c9 v0 T))) hI o_v0 (fun r T h0 h1 h2 h3 h4 => ⟨h0, h1, h2, h3, h4⟩))) (fun r T a b => ⟨a.1, a.2, b.2⟩)) (fun r T a b => ⟨a.1, a.2, b.2⟩)) (mn_X9_driest (Q := fun r T => IV T ∧ Gr S T ∧ (FRI [(9, 9)] [] S T) ∧ K2 S T ∧ ((NFq 9 9 c9 v0 T))) hI o_v0 (fun r T h0 h1 h2 h3 h4 => ⟨h0, h1, h2, h3, h4⟩)) (fun r T h _ => hq r T h.1.1 h.1.2.1 h.1.2.2.1 h.1.2.2.2.1 h.1.2.2.2.2 h.2)
theorem mz_X9_even {v0 : Nat} {v1 : Int32} {v2 : Int32} {v3 : Int32} {v4 : Int32} {Q : Int32 → HS → Prop} {S : HS} (hI : IV S) (o_v0 : ob S v0 9)  (hq : ∀ (r : Int32) (T : HS), IV T → Gr S T → FRI [(9, 9)] [] S T → K2 S T → (NFq 9 9 c9 v0 T) → (((K7 S T ∧ K8 S T) ∧ (K9 false LA S T ∧ K9 true LB S T)) ∧ (KJ LWJ S T ∧ K9 false LWL S T)) → Q r T) : P_X9_even v0 v1 v2 v3 v4 Q S := cm_X9_even (cm_X9_even (Q3 := fun r T => (IV T ∧ Gr S T ∧ (FRI [(9, 9)] [] S T) ∧ K2 S T ∧ ((NFq 9 9 c9 v0 T))) ∧ ((K7 S T ∧ K8 S T) ∧ (K9 false LA S T ∧ K9 true LB S T)) ∧ (KJ LWJ S T ∧ K9 false LWL S T)) (cm_X9_even (Q3 := fun r T => (IV T ∧ Gr S T ∧ (FRI [(9, 9)] [] S T) ∧ K2 S T ∧ ((NFq 9 9 c9 v0 T))) ∧ (K7 S T ∧ K8 S T) ∧ (K9 false LA S T ∧ K9 true LB S T)) (cm_X9_even (Q3 := fun r T => (IV T ∧ Gr S T ∧ (FRI [(9, 9)] [] S T) ∧ K2 S T ∧ ((NFq 9 9 c9 v0 T))) ∧ K7 S T ∧ K8 S T) (kw_X9_even (mn_X9_even (Q := fun r T => IV T ∧ Gr S T ∧ (FRI [(9, 9)] [] S T) ∧ K2 S T ∧ ((NFq 9 9 c9 v0 T))) hI o_v0 (fun r T h0 h1 h2 h3 h4 => ⟨h0, h1, h2, h3, h4⟩))) (kx_X9_even (mn_X9_even (Q := fun r T => IV T ∧ Gr S T ∧ (FRI [(9, 9)] [] S T) ∧ K2 S T ∧ ((NFq 9 9 c9 v0 T))) hI o_v0 (fun r T h0 h1 h2 h3 h4 => ⟨h0, h1, h2, h3, h4⟩))) (fun r T a b => ⟨a.1, a.2, b.2⟩)) (cm_X9_even (Q3 := fun r T => (IV T ∧ Gr S T ∧ (FRI [(9, 9)] [] S T) ∧ K2 S T ∧ ((NFq 9 9 c9 v0 T))) ∧ (K9 false LA S T ∧ K9 true LB S T)) (ky_X9_even (b := false) (L := LA) (by decide) (by decide) (fun _ => rfl) (mn_X9_even (Q := fun r T => IV T ∧ Gr S T ∧ (FRI [(9, 9)] [] S T) ∧ K2 S T ∧ ((NFq 9 9 c9 v0 T))) hI o_v0 (fun r T h0 h1 h2 h3 h4 => ⟨h0, h1, h2, h3, h4⟩))) (ky_X9_even (b := true) (L := LB) (by decide) (by decide) (fun z => z.elim) (mn_X9_even (Q := fun r T => IV T ∧ Gr S T ∧ (FRI [(9, 9)] [] S T) ∧ K2 S T ∧ ((NFq 9 9 c9 v0 T))) hI o_v0 (fun r T h0 h1 h2 h3 h4 => ⟨h0, h1, h2, h3, h4⟩))) (fun r T a b => ⟨a.1, a.2, b.2⟩)) (fun r T a b => ⟨a.1, a.2, b.2⟩)) (cm_X9_even (Q3 := fun r T => (IV T ∧ Gr S T ∧ (FRI [(9, 9)] [] S T) ∧ K2 S T ∧ ((NFq 9 9 c9 v0 T))) ∧ (KJ LWJ S T ∧ K9 false LWL S T)) (kj_X9_even (L := LWJ) (by decide) (by decide) (mn_X9_even (Q := fun r T => IV T ∧ Gr S T ∧ (FRI [(9, 9)] [] S T) ∧ K2 S T ∧ ((NFq 9 9 c9 v0 T))) hI o_v0 (fun r T h0 h1 h2 h3 h4 => ⟨h0, h1, h2, h3, h4⟩))) (ky_X9_even (b := false) (L := LWL) (by decide) (by decide) (fun _ => rfl) (mn_X9_even (Q := fun r T => IV T ∧ Gr S T ∧ (FRI [(9, 9)] [] S T) ∧ K2 S T ∧ ((NFq 9 9 c9 v0 T))) hI o_v0 (fun r T h0 h1 h2 h3 h4 => ⟨h0, h1, h2, h3, h4⟩))) (fun r T a b => ⟨a.1, a.2, b.2⟩)) (fun r T a b => ⟨a.1, a.2, b.2⟩)) (mn_X9_even (Q := fun r T => IV T ∧ Gr S T ∧ (FRI [(9, 9)] [] S T) ∧ K2 S T ∧ ((NFq 9 9 c9 v0 T))) hI o_v0 (fun r T h0 h1 h2 h3 h4 => ⟨h0, h1, h2, h3, h4⟩)) (fun r T h _ => hq r T h.1.1 h.1.2.1 h.1.2.2.1 h.1.2.2.2.1 h.1.2.2.2.2 h.2)
theorem mz_X9_face {v0 : Nat} {v1 : Int32} {v2 : Int32} {v3 : Int32} {v4 : Int32} {v5 : Int32} {v6 : Int32} {v7 : Int32} {Q : Int64 → HS → Prop} {S : HS} (hI : IV S) (o_v0 : ob S v0 9)  (hq : ∀ (r : Int64) (T : HS), IV T → Gr S T → FRI [(9, 9)] [] S T → K2 S T → (NFq 9 9 c9 v0 T) → (((K7 S T ∧ K8 S T) ∧ (K9 false LA S T ∧ K9 true LB S T)) ∧ (KJ LWJ S T ∧ K9 false LWL S T)) → Q r T) : P_X9_face v0 v1 v2 v3 v4 v5 v6 v7 Q S := cm_X9_face (cm_X9_face (Q3 := fun r T => (IV T ∧ Gr S T ∧ (FRI [(9, 9)] [] S T) ∧ K2 S T ∧ ((NFq 9 9 c9 v0 T))) ∧ ((K7 S T ∧ K8 S T) ∧ (K9 false LA S T ∧ K9 true LB S T)) ∧ (KJ LWJ S T ∧ K9 false LWL S T)) (cm_X9_face (Q3 := fun r T => (IV T ∧ Gr S T ∧ (FRI [(9, 9)] [] S T) ∧ K2 S T ∧ ((NFq 9 9 c9 v0 T))) ∧ (K7 S T ∧ K8 S T) ∧ (K9 false LA S T ∧ K9 true LB S T)) (cm_X9_face (Q3 := fun r T => (IV T ∧ Gr S T ∧ (FRI [(9, 9)] [] S T) ∧ K2 S T ∧ ((NFq 9 9 c9 v0 T))) ∧ K7 S T ∧ K8 S T) (kw_X9_face (mn_X9_face (Q := fun r T => IV T ∧ Gr S T ∧ (FRI [(9, 9)] [] S T) ∧ K2 S T ∧ ((NFq 9 9 c9 v0 T))) hI o_v0 (fun r T h0 h1 h2 h3 h4 => ⟨h0, h1, h2, h3, h4⟩))) (kx_X9_face (mn_X9_face (Q := fun r T => IV T ∧ Gr S T ∧ (FRI [(9, 9)] [] S T) ∧ K2 S T ∧ ((NFq 9 9 c9 v0 T))) hI o_v0 (fun r T h0 h1 h2 h3 h4 => ⟨h0, h1, h2, h3, h4⟩))) (fun r T a b => ⟨a.1, a.2, b.2⟩)) (cm_X9_face (Q3 := fun r T => (IV T ∧ Gr S T ∧ (FRI [(9, 9)] [] S T) ∧ K2 S T ∧ ((NFq 9 9 c9 v0 T))) ∧ (K9 false LA S T ∧ K9 true LB S T)) (ky_X9_face (b := false) (L := LA) (by decide) (by decide) (fun _ => rfl) (mn_X9_face (Q := fun r T => IV T ∧ Gr S T ∧ (FRI [(9, 9)] [] S T) ∧ K2 S T ∧ ((NFq 9 9 c9 v0 T))) hI o_v0 (fun r T h0 h1 h2 h3 h4 => ⟨h0, h1, h2, h3, h4⟩))) (ky_X9_face (b := true) (L := LB) (by decide) (by decide) (fun z => z.elim) (mn_X9_face (Q := fun r T => IV T ∧ Gr S T ∧ (FRI [(9, 9)] [] S T) ∧ K2 S T ∧ ((NFq 9 9 c9 v0 T))) hI o_v0 (fun r T h0 h1 h2 h3 h4 => ⟨h0, h1, h2, h3, h4⟩))) (fun r T a b => ⟨a.1, a.2, b.2⟩)) (fun r T a b => ⟨a.1, a.2, b.2⟩)) (cm_X9_face (Q3 := fun r T => (IV T ∧ Gr S T ∧ (FRI [(9, 9)] [] S T) ∧ K2 S T ∧ ((NFq 9 9 c9 v0 T))) ∧ (KJ LWJ S T ∧ K9 false LWL S T)) (kj_X9_face (L := LWJ) (by decide) (by decide) (mn_X9_face (Q := fun r T => IV T ∧ Gr S T ∧ (FRI [(9, 9)] [] S T) ∧ K2 S T ∧ ((NFq 9 9 c9 v0 T))) hI o_v0 (fun r T h0 h1 h2 h3 h4 => ⟨h0, h1, h2, h3, h4⟩))) (ky_X9_face (b := false) (L := LWL) (by decide) (by decide) (fun _ => rfl) (mn_X9_face (Q := fun r T => IV T ∧ Gr S T ∧ (FRI [(9, 9)] [] S T) ∧ K2 S T ∧ ((NFq 9 9 c9 v0 T))) hI o_v0 (fun r T h0 h1 h2 h3 h4 => ⟨h0, h1, h2, h3, h4⟩))) (fun r T a b => ⟨a.1, a.2, b.2⟩)) (fun r T a b => ⟨a.1, a.2, b.2⟩)) (mn_X9_face (Q := fun r T => IV T ∧ Gr S T ∧ (FRI [(9, 9)] [] S T) ∧ K2 S T ∧ ((NFq 9 9 c9 v0 T))) hI o_v0 (fun r T h0 h1 h2 h3 h4 => ⟨h0, h1, h2, h3, h4⟩)) (fun r T h _ => hq r T h.1.1 h.1.2.1 h.1.2.2.1 h.1.2.2.2.1 h.1.2.2.2.2 h.2)
theorem mz_X9_feed {v0 : Nat} {v1 : Int32} {v2 : Int32} {v3 : Int32} {v4 : Int32} {v5 : Int32} {Q : Int32 → HS → Prop} {S : HS} (hI : IV S) (o_v0 : ob S v0 9) {f : Nat → Int32} {t a : Nat} (P : TP 0 1 f t a v0 S) (ht : t ≤ 900)  (hq : ∀ (r : Int32) (T : HS), IV T → Gr S T → FRI [(9, 1)] [] S T → ((900 < fI S v0 1 + 20 → r = -1 ∧ fI T v0 1 = fI S v0 1) ∧ (fI S v0 1 + 20 ≤ 900 → r = fI T v0 1 ∧ fI T v0 1 = fI S v0 1 + 20)) → (FT [1] a v0 S T ∧ ((t + 20 ≤ 900 ∧ r = nI (t + 20) ∧ TP 0 1 (f20 f t v1 v2 v3 v4 v5) (t + 20) a v0 T) ∨ (900 < t + 20 ∧ r = -1 ∧ S = T))) → (((K7 S T ∧ K8 S T) ∧ (K9 false LA S T ∧ K9 true LB S T)) ∧ (KJ LWJ S T ∧ K9 false LWL S T)) → Q r T) : P_X9_feed v0 v1 v2 v3 v4 v5 Q S := cm_X9_feed (cm_X9_feed (Q3 := fun r T => (IV T ∧ Gr S T ∧ (FRI [(9, 1)] [] S T) ∧ (((900 < fI S v0 1 + 20 → r = -1 ∧ fI T v0 1 = fI S v0 1) ∧ (fI S v0 1 + 20 ≤ 900 → r = fI T v0 1 ∧ fI T v0 1 = fI S v0 1 + 20))) ∧ ((FT [1] a v0 S T ∧ ((t + 20 ≤ 900 ∧ r = nI (t + 20) ∧ TP 0 1 (f20 f t v1 v2 v3 v4 v5) (t + 20) a v0 T) ∨ (900 < t + 20 ∧ r = -1 ∧ S = T))))) ∧ ((K7 S T ∧ K8 S T) ∧ (K9 false LA S T ∧ K9 true LB S T)) ∧ (KJ LWJ S T ∧ K9 false LWL S T)) (cm_X9_feed (Q3 := fun r T => (IV T ∧ Gr S T ∧ (FRI [(9, 1)] [] S T) ∧ (((900 < fI S v0 1 + 20 → r = -1 ∧ fI T v0 1 = fI S v0 1) ∧ (fI S v0 1 + 20 ≤ 900 → r = fI T v0 1 ∧ fI T v0 1 = fI S v0 1 + 20))) ∧ ((FT [1] a v0 S T ∧ ((t + 20 ≤ 900 ∧ r = nI (t + 20) ∧ TP 0 1 (f20 f t v1 v2 v3 v4 v5) (t + 20) a v0 T) ∨ (900 < t + 20 ∧ r = -1 ∧ S = T))))) ∧ (K7 S T ∧ K8 S T) ∧ (K9 false LA S T ∧ K9 true LB S T)) (cm_X9_feed (Q3 := fun r T => (IV T ∧ Gr S T ∧ (FRI [(9, 1)] [] S T) ∧ (((900 < fI S v0 1 + 20 → r = -1 ∧ fI T v0 1 = fI S v0 1) ∧ (fI S v0 1 + 20 ≤ 900 → r = fI T v0 1 ∧ fI T v0 1 = fI S v0 1 + 20))) ∧ ((FT [1] a v0 S T ∧ ((t + 20 ≤ 900 ∧ r = nI (t + 20) ∧ TP 0 1 (f20 f t v1 v2 v3 v4 v5) (t + 20) a v0 T) ∨ (900 < t + 20 ∧ r = -1 ∧ S = T))))) ∧ K7 S T ∧ K8 S T) (kw_X9_feed (ml_X9_feed (Q := fun r T => IV T ∧ Gr S T ∧ (FRI [(9, 1)] [] S T) ∧ (((900 < fI S v0 1 + 20 → r = -1 ∧ fI T v0 1 = fI S v0 1) ∧ (fI S v0 1 + 20 ≤ 900 → r = fI T v0 1 ∧ fI T v0 1 = fI S v0 1 + 20))) ∧ ((FT [1] a v0 S T ∧ ((t + 20 ≤ 900 ∧ r = nI (t + 20) ∧ TP 0 1 (f20 f t v1 v2 v3 v4 v5) (t + 20) a v0 T) ∨ (900 < t + 20 ∧ r = -1 ∧ S = T))))) hI o_v0 P ht (fun r T h0 h1 h2 h3 h4 => ⟨h0, h1, h2, h3, h4⟩))) (kx_X9_feed (ml_X9_feed (Q := fun r T => IV T ∧ Gr S T ∧ (FRI [(9, 1)] [] S T) ∧ (((900 < fI S v0 1 + 20 → r = -1 ∧ fI T v0 1 = fI S v0 1) ∧ (fI S v0 1 + 20 ≤ 900 → r = fI T v0 1 ∧ fI T v0 1 = fI S v0 1 + 20))) ∧ ((FT [1] a v0 S T ∧ ((t + 20 ≤ 900 ∧ r = nI (t + 20) ∧ TP 0 1 (f20 f t v1 v2 v3 v4 v5) (t + 20) a v0 T) ∨ (900 < t + 20 ∧ r = -1 ∧ S = T))))) hI o_v0 P ht (fun r T h0 h1 h2 h3 h4 => ⟨h0, h1, h2, h3, h4⟩))) (fun r T a b => ⟨a.1, a.2, b.2⟩)) (cm_X9_feed (Q3 := fun r T => (IV T ∧ Gr S T ∧ (FRI [(9, 1)] [] S T) ∧ (((900 < fI S v0 1 + 20 → r = -1 ∧ fI T v0 1 = fI S v0 1) ∧ (fI S v0 1 + 20 ≤ 900 → r = fI T v0 1 ∧ fI T v0 1 = fI S v0 1 + 20))) ∧ ((FT [1] a v0 S T ∧ ((t + 20 ≤ 900 ∧ r = nI (t + 20) ∧ TP 0 1 (f20 f t v1 v2 v3 v4 v5) (t + 20) a v0 T) ∨ (900 < t + 20 ∧ r = -1 ∧ S = T))))) ∧ (K9 false LA S T ∧ K9 true LB S T)) (ky_X9_feed (b := false) (L := LA) (by decide) (by decide) (fun _ => rfl) (ml_X9_feed (Q := fun r T => IV T ∧ Gr S T ∧ (FRI [(9, 1)] [] S T) ∧ (((900 < fI S v0 1 + 20 → r = -1 ∧ fI T v0 1 = fI S v0 1) ∧ (fI S v0 1 + 20 ≤ 900 → r = fI T v0 1 ∧ fI T v0 1 = fI S v0 1 + 20))) ∧ ((FT [1] a v0 S T ∧ ((t + 20 ≤ 900 ∧ r = nI (t + 20) ∧ TP 0 1 (f20 f t v1 v2 v3 v4 v5) (t + 20) a v0 T) ∨ (900 < t + 20 ∧ r = -1 ∧ S = T))))) hI o_v0 P ht (fun r T h0 h1 h2 h3 h4 => ⟨h0, h1, h2, h3, h4⟩))) (ky_X9_feed (b := true) (L := LB) (by decide) (by decide) (fun z => z.elim) (ml_X9_feed (Q := fun r T => IV T ∧ Gr S T ∧ (FRI [(9, 1)] [] S T) ∧ (((900 < fI S v0 1 + 20 → r = -1 ∧ fI T v0 1 = fI S v0 1) ∧ (fI S v0 1 + 20 ≤ 900 → r = fI T v0 1 ∧ fI T v0 1 = fI S v0 1 + 20))) ∧ ((FT [1] a v0 S T ∧ ((t + 20 ≤ 900 ∧ r = nI (t + 20) ∧ TP 0 1 (f20 f t v1 v2 v3 v4 v5) (t + 20) a v0 T) ∨ (900 < t + 20 ∧ r = -1 ∧ S = T))))) hI o_v0 P ht (fun r T h0 h1 h2 h3 h4 => ⟨h0, h1, h2, h3, h4⟩))) (fun r T a b => ⟨a.1, a.2, b.2⟩)) (fun r T a b => ⟨a.1, a.2, b.2⟩)) (cm_X9_feed (Q3 := fun r T => (IV T ∧ Gr S T ∧ (FRI [(9, 1)] [] S T) ∧ (((900 < fI S v0 1 + 20 → r = -1 ∧ fI T v0 1 = fI S v0 1) ∧ (fI S v0 1 + 20 ≤ 900 → r = fI T v0 1 ∧ fI T v0 1 = fI S v0 1 + 20))) ∧ ((FT [1] a v0 S T ∧ ((t + 20 ≤ 900 ∧ r = nI (t + 20) ∧ TP 0 1 (f20 f t v1 v2 v3 v4 v5) (t + 20) a v0 T) ∨ (900 < t + 20 ∧ r = -1 ∧ S = T))))) ∧ (KJ LWJ S T ∧ K9 false LWL S T)) (kj_X9_feed (L := LWJ) (by decide) (by decide) (ml_X9_feed (Q := fun r T => IV T ∧ Gr S T ∧ (FRI [(9, 1)] [] S T) ∧ (((900 < fI S v0 1 + 20 → r = -1 ∧ fI T v0 1 = fI S v0 1) ∧ (fI S v0 1 + 20 ≤ 900 → r = fI T v0 1 ∧ fI T v0 1 = fI S v0 1 + 20))) ∧ ((FT [1] a v0 S T ∧ ((t + 20 ≤ 900 ∧ r = nI (t + 20) ∧ TP 0 1 (f20 f t v1 v2 v3 v4 v5) (t + 20) a v0 T) ∨ (900 < t + 20 ∧ r = -1 ∧ S = T))))) hI o_v0 P ht (fun r T h0 h1 h2 h3 h4 => ⟨h0, h1, h2, h3, h4⟩))) (ky_X9_feed (b := false) (L := LWL) (by decide) (by decide) (fun _ => rfl) (ml_X9_feed (Q := fun r T => IV T ∧ Gr S T ∧ (FRI [(9, 1)] [] S T) ∧ (((900 < fI S v0 1 + 20 → r = -1 ∧ fI T v0 1 = fI S v0 1) ∧ (fI S v0 1 + 20 ≤ 900 → r = fI T v0 1 ∧ fI T v0 1 = fI S v0 1 + 20))) ∧ ((FT [1] a v0 S T ∧ ((t + 20 ≤ 900 ∧ r = nI (t + 20) ∧ TP 0 1 (f20 f t v1 v2 v3 v4 v5) (t + 20) a v0 T) ∨ (900 < t + 20 ∧ r = -1 ∧ S = T))))) hI o_v0 P ht (fun r T h0 h1 h2 h3 h4 => ⟨h0, h1, h2, h3, h4⟩))) (fun r T a b => ⟨a.1, a.2, b.2⟩)) (fun r T a b => ⟨a.1, a.2, b.2⟩)) (ml_X9_feed (Q := fun r T => IV T ∧ Gr S T ∧ (FRI [(9, 1)] [] S T) ∧ (((900 < fI S v0 1 + 20 → r = -1 ∧ fI T v0 1 = fI S v0 1) ∧ (fI S v0 1 + 20 ≤ 900 → r = fI T v0 1 ∧ fI T v0 1 = fI S v0 1 + 20))) ∧ ((FT [1] a v0 S T ∧ ((t + 20 ≤ 900 ∧ r = nI (t + 20) ∧ TP 0 1 (f20 f t v1 v2 v3 v4 v5) (t + 20) a v0 T) ∨ (900 < t + 20 ∧ r = -1 ∧ S = T))))) hI o_v0 P ht (fun r T h0 h1 h2 h3 h4 => ⟨h0, h1, h2, h3, h4⟩)) (fun r T h _ => hq r T h.1.1 h.1.2.1 h.1.2.2.1 h.1.2.2.2.1 h.1.2.2.2.2 h.2)
theorem mz_X9_first {v0 : Nat} {v1 : Int32} {v2 : Int32} {v3 : Int32} {v4 : Int32} {v5 : Int32} {v6 : Int32} {Q : Int32 → HS → Prop} {S : HS} (hI : IV S) (o_v0 : ob S v0 9)  (hq : ∀ (r : Int32) (T : HS), IV T → Gr S T → FRI [(9, 9)] [] S T → K2 S T → (NFq 9 9 c9 v0 T) → (((K7 S T ∧ K8 S T) ∧ (K9 false LA S T ∧ K9 true LB S T)) ∧ (KJ LWJ S T ∧ K9 false LWL S T)) → Q r T) : P_X9_first v0 v1 v2 v3 v4 v5 v6 Q S := cm_X9_first (cm_X9_first (Q3 := fun r T => (IV T ∧ Gr S T ∧ (FRI [(9, 9)] [] S T) ∧ K2 S T ∧ ((NFq 9 9 c9 v0 T))) ∧ ((K7 S T ∧ K8 S T) ∧ (K9 false LA S T ∧ K9 true LB S T)) ∧ (KJ LWJ S T ∧ K9 false LWL S T)) (cm_X9_first (Q3 := fun r T => (IV T ∧ Gr S T ∧ (FRI [(9, 9)] [] S T) ∧ K2 S T ∧ ((NFq 9 9 c9 v0 T))) ∧ (K7 S T ∧ K8 S T) ∧ (K9 false LA S T ∧ K9 true LB S T)) (cm_X9_first (Q3 := fun r T => (IV T ∧ Gr S T ∧ (FRI [(9, 9)] [] S T) ∧ K2 S T ∧ ((NFq 9 9 c9 v0 T))) ∧ K7 S T ∧ K8 S T) (kw_X9_first (mn_X9_first (Q := fun r T => IV T ∧ Gr S T ∧ (FRI [(9, 9)] [] S T) ∧ K2 S T ∧ ((NFq 9 9 c9 v0 T))) hI o_v0 (fun r T h0 h1 h2 h3 h4 => ⟨h0, h1, h2, h3, h4⟩))) (kx_X9_first (mn_X9_first (Q := fun r T => IV T ∧ Gr S T ∧ (FRI [(9, 9)] [] S T) ∧ K2 S T ∧ ((NFq 9 9 c9 v0 T))) hI o_v0 (fun r T h0 h1 h2 h3 h4 => ⟨h0, h1, h2, h3, h4⟩))) (fun r T a b => ⟨a.1, a.2, b.2⟩)) (cm_X9_first (Q3 := fun r T => (IV T ∧ Gr S T ∧ (FRI [(9, 9)] [] S T) ∧ K2 S T ∧ ((NFq 9 9 c9 v0 T))) ∧ (K9 false LA S T ∧ K9 true LB S T)) (ky_X9_first (b := false) (L := LA) (by decide) (by decide) (fun _ => rfl) (mn_X9_first (Q := fun r T => IV T ∧ Gr S T ∧ (FRI [(9, 9)] [] S T) ∧ K2 S T ∧ ((NFq 9 9 c9 v0 T))) hI o_v0 (fun r T h0 h1 h2 h3 h4 => ⟨h0, h1, h2, h3, h4⟩))) (ky_X9_first (b := true) (L := LB) (by decide) (by decide) (fun z => z.elim) (mn_X9_first (Q := fun r T => IV T ∧ Gr S T ∧ (FRI [(9, 9)] [] S T) ∧ K2 S T ∧ ((NFq 9 9 c9 v0 T))) hI o_v0 (fun r T h0 h1 h2 h3 h4 => ⟨h0, h1, h2, h3, h4⟩))) (fun r T a b => ⟨a.1, a.2, b.2⟩)) (fun r T a b => ⟨a.1, a.2, b.2⟩)) (cm_X9_first (Q3 := fun r T => (IV T ∧ Gr S T ∧ (FRI [(9, 9)] [] S T) ∧ K2 S T ∧ ((NFq 9 9 c9 v0 T))) ∧ (KJ LWJ S T ∧ K9 false LWL S T)) (kj_X9_first (L := LWJ) (by decide) (by decide) (mn_X9_first (Q := fun r T => IV T ∧ Gr S T ∧ (FRI [(9, 9)] [] S T) ∧ K2 S T ∧ ((NFq 9 9 c9 v0 T))) hI o_v0 (fun r T h0 h1 h2 h3 h4 => ⟨h0, h1, h2, h3, h4⟩))) (ky_X9_first (b := false) (L := LWL) (by decide) (by decide) (fun _ => rfl) (mn_X9_first (Q := fun r T => IV T ∧ Gr S T ∧ (FRI [(9, 9)] [] S T) ∧ K2 S T ∧ ((NFq 9 9 c9 v0 T))) hI o_v0 (fun r T h0 h1 h2 h3 h4 => ⟨h0, h1, h2, h3, h4⟩))) (fun r T a b => ⟨a.1, a.2, b.2⟩)) (fun r T a b => ⟨a.1, a.2, b.2⟩)) (mn_X9_first (Q := fun r T => IV T ∧ Gr S T ∧ (FRI [(9, 9)] [] S T) ∧ K2 S T ∧ ((NFq 9 9 c9 v0 T))) hI o_v0 (fun r T h0 h1 h2 h3 h4 => ⟨h0, h1, h2, h3, h4⟩)) (fun r T h _ => hq r T h.1.1 h.1.2.1 h.1.2.2.1 h.1.2.2.2.1 h.1.2.2.2.2 h.2)
theorem mz_X9_fit {v0 : Nat} {v1 : Int32} {v2 : Int32} {Q : Int32 → HS → Prop} {S : HS} (hI : IV S) (o_v0 : ob S v0 9)  (hq : ∀ (r : Int32) (T : HS), IV T → Gr S T → FRI [(9, 9)] [] S T → K2 S T → (NFq 9 9 c9 v0 T) → (((K7 S T ∧ K8 S T) ∧ (K9 false LA S T ∧ K9 true LB S T)) ∧ (KJ LWJ S T ∧ K9 false LWL S T)) → Q r T) : P_X9_fit v0 v1 v2 Q S := cm_X9_fit (cm_X9_fit (Q3 := fun r T => (IV T ∧ Gr S T ∧ (FRI [(9, 9)] [] S T) ∧ K2 S T ∧ ((NFq 9 9 c9 v0 T))) ∧ ((K7 S T ∧ K8 S T) ∧ (K9 false LA S T ∧ K9 true LB S T)) ∧ (KJ LWJ S T ∧ K9 false LWL S T)) (cm_X9_fit (Q3 := fun r T => (IV T ∧ Gr S T ∧ (FRI [(9, 9)] [] S T) ∧ K2 S T ∧ ((NFq 9 9 c9 v0 T))) ∧ (K7 S T ∧ K8 S T) ∧ (K9 false LA S T ∧ K9 true LB S T)) (cm_X9_fit (Q3 := fun r T => (IV T ∧ Gr S T ∧ (FRI [(9, 9)] [] S T) ∧ K2 S T ∧ ((NFq 9 9 c9 v0 T))) ∧ K7 S T ∧ K8 S T) (kw_X9_fit (mn_X9_fit (Q := fun r T => IV T ∧ Gr S T ∧ (FRI [(9, 9)] [] S T) ∧ K2 S T ∧ ((NFq 9 9 c9 v0 T))) hI o_v0 (fun r T h0 h1 h2 h3 h4 => ⟨h0, h1, h2, h3, h4⟩))) (kx_X9_fit (mn_X9_fit (Q := fun r T => IV T ∧ Gr S T ∧ (FRI [(9, 9)] [] S T) ∧ K2 S T ∧ ((NFq 9 9 c9 v0 T))) hI o_v0 (fun r T h0 h1 h2 h3 h4 => ⟨h0, h1, h2, h3, h4⟩))) (fun r T a b => ⟨a.1, a.2, b.2⟩)) (cm_X9_fit (Q3 := fun r T => (IV T ∧ Gr S T ∧ (FRI [(9, 9)] [] S T) ∧ K2 S T ∧ ((NFq 9 9 c9 v0 T))) ∧ (K9 false LA S T ∧ K9 true LB S T)) (ky_X9_fit (b := false) (L := LA) (by decide) (by decide) (fun _ => rfl) (mn_X9_fit (Q := fun r T => IV T ∧ Gr S T ∧ (FRI [(9, 9)] [] S T) ∧ K2 S T ∧ ((NFq 9 9 c9 v0 T))) hI o_v0 (fun r T h0 h1 h2 h3 h4 => ⟨h0, h1, h2, h3, h4⟩))) (ky_X9_fit (b := true) (L := LB) (by decide) (by decide) (fun z => z.elim) (mn_X9_fit (Q := fun r T => IV T ∧ Gr S T ∧ (FRI [(9, 9)] [] S T) ∧ K2 S T ∧ ((NFq 9 9 c9 v0 T))) hI o_v0 (fun r T h0 h1 h2 h3 h4 => ⟨h0, h1, h2, h3, h4⟩))) (fun r T a b => ⟨a.1, a.2, b.2⟩)) (fun r T a b => ⟨a.1, a.2, b.2⟩)) (cm_X9_fit (Q3 := fun r T => (IV T ∧ Gr S T ∧ (FRI [(9, 9)] [] S T) ∧ K2 S T ∧ ((NFq 9 9 c9 v0 T))) ∧ (KJ LWJ S T ∧ K9 false LWL S T)) (kj_X9_fit (L := LWJ) (by decide) (by decide) (mn_X9_fit (Q := fun r T => IV T ∧ Gr S T ∧ (FRI [(9, 9)] [] S T) ∧ K2 S T ∧ ((NFq 9 9 c9 v0 T))) hI o_v0 (fun r T h0 h1 h2 h3 h4 => ⟨h0, h1, h2, h3, h4⟩))) (ky_X9_fit (b := false) (L := LWL) (by decide) (by decide) (fun _ => rfl) (mn_X9_fit (Q := fun r T => IV T ∧ Gr S T ∧ (FRI [(9, 9)] [] S T) ∧ K2 S T ∧ ((NFq 9 9 c9 v0 T))) hI o_v0 (fun r T h0 h1 h2 h3 h4 => ⟨h0, h1, h2, h3, h4⟩))) (fun r T a b => ⟨a.1, a.2, b.2⟩)) (fun r T a b => ⟨a.1, a.2, b.2⟩)) (mn_X9_fit (Q := fun r T => IV T ∧ Gr S T ∧ (FRI [(9, 9)] [] S T) ∧ K2 S T ∧ ((NFq 9 9 c9 v0 T))) hI o_v0 (fun r T h0 h1 h2 h3 h4 => ⟨h0, h1, h2, h3, h4⟩)) (fun r T h _ => hq r T h.1.1 h.1.2.1 h.1.2.2.1 h.1.2.2.2.1 h.1.2.2.2.2 h.2)
theorem mz_X9_fits {v0 : Nat} {v1 : Int32} {Q : Int32 → HS → Prop} {S : HS} (hI : IV S) (o_v0 : ob S v0 9)  (hq : ∀ (r : Int32) (T : HS), IV T → Gr S T → FRI [(9, 9)] [] S T → K2 S T → (NFq 9 9 c9 v0 T) → (((K7 S T ∧ K8 S T) ∧ (K9 false LA S T ∧ K9 true LB S T)) ∧ (KJ LWJ S T ∧ K9 false LWL S T)) → Q r T) : P_X9_fits v0 v1 Q S := cm_X9_fits (cm_X9_fits (Q3 := fun r T => (IV T ∧ Gr S T ∧ (FRI [(9, 9)] [] S T) ∧ K2 S T ∧ ((NFq 9 9 c9 v0 T))) ∧ ((K7 S T ∧ K8 S T) ∧ (K9 false LA S T ∧ K9 true LB S T)) ∧ (KJ LWJ S T ∧ K9 false LWL S T)) (cm_X9_fits (Q3 := fun r T => (IV T ∧ Gr S T ∧ (FRI [(9, 9)] [] S T) ∧ K2 S T ∧ ((NFq 9 9 c9 v0 T))) ∧ (K7 S T ∧ K8 S T) ∧ (K9 false LA S T ∧ K9 true LB S T)) (cm_X9_fits (Q3 := fun r T => (IV T ∧ Gr S T ∧ (FRI [(9, 9)] [] S T) ∧ K2 S T ∧ ((NFq 9 9 c9 v0 T))) ∧ K7 S T ∧ K8 S T) (kw_X9_fits (mn_X9_fits (Q := fun r T => IV T ∧ Gr S T ∧ (FRI [(9, 9)] [] S T) ∧ K2 S T ∧ ((NFq 9 9 c9 v0 T))) hI o_v0 (fun r T h0 h1 h2 h3 h4 => ⟨h0, h1, h2, h3, h4⟩))) (kx_X9_fits (mn_X9_fits (Q := fun r T => IV T ∧ Gr S T ∧ (FRI [(9, 9)] [] S T) ∧ K2 S T ∧ ((NFq 9 9 c9 v0 T))) hI o_v0 (fun r T h0 h1 h2 h3 h4 => ⟨h0, h1, h2, h3, h4⟩))) (fun r T a b => ⟨a.1, a.2, b.2⟩)) (cm_X9_fits (Q3 := fun r T => (IV T ∧ Gr S T ∧ (FRI [(9, 9)] [] S T) ∧ K2 S T ∧ ((NFq 9 9 c9 v0 T))) ∧ (K9 false LA S T ∧ K9 true LB S T)) (ky_X9_fits (b := false) (L := LA) (by decide) (by decide) (fun _ => rfl) (mn_X9_fits (Q := fun r T => IV T ∧ Gr S T ∧ (FRI [(9, 9)] [] S T) ∧ K2 S T ∧ ((NFq 9 9 c9 v0 T))) hI o_v0 (fun r T h0 h1 h2 h3 h4 => ⟨h0, h1, h2, h3, h4⟩))) (ky_X9_fits (b := true) (L := LB) (by decide) (by decide) (fun z => z.elim) (mn_X9_fits (Q := fun r T => IV T ∧ Gr S T ∧ (FRI [(9, 9)] [] S T) ∧ K2 S T ∧ ((NFq 9 9 c9 v0 T))) hI o_v0 (fun r T h0 h1 h2 h3 h4 => ⟨h0, h1, h2, h3, h4⟩))) (fun r T a b => ⟨a.1, a.2, b.2⟩)) (fun r T a b => ⟨a.1, a.2, b.2⟩)) (cm_X9_fits (Q3 := fun r T => (IV T ∧ Gr S T ∧ (FRI [(9, 9)] [] S T) ∧ K2 S T ∧ ((NFq 9 9 c9 v0 T))) ∧ (KJ LWJ S T ∧ K9 false LWL S T)) (kj_X9_fits (L := LWJ) (by decide) (by decide) (mn_X9_fits (Q := fun r T => IV T ∧ Gr S T ∧ (FRI [(9, 9)] [] S T) ∧ K2 S T ∧ ((NFq 9 9 c9 v0 T))) hI o_v0 (fun r T h0 h1 h2 h3 h4 => ⟨h0, h1, h2, h3, h4⟩))) (ky_X9_fits (b := false) (L := LWL) (by decide) (by decide) (fun _ => rfl) (mn_X9_fits (Q := fun r T => IV T ∧ Gr S T ∧ (FRI [(9, 9)] [] S T) ∧ K2 S T ∧ ((NFq 9 9 c9 v0 T))) hI o_v0 (fun r T h0 h1 h2 h3 h4 => ⟨h0, h1, h2, h3, h4⟩))) (fun r T a b => ⟨a.1, a.2, b.2⟩)) (fun r T a b => ⟨a.1, a.2, b.2⟩)) (mn_X9_fits (Q := fun r T => IV T ∧ Gr S T ∧ (FRI [(9, 9)] [] S T) ∧ K2 S T ∧ ((NFq 9 9 c9 v0 T))) hI o_v0 (fun r T h0 h1 h2 h3 h4 => ⟨h0, h1, h2, h3, h4⟩)) (fun r T h _ => hq r T h.1.1 h.1.2.1 h.1.2.2.1 h.1.2.2.2.1 h.1.2.2.2.2 h.2)
theorem mt_X9_go {v0 : Nat} {v1 : Int32} {v2 : Int32} {v3 : Int32} {Q : Int32 → HS → Prop} {S : HS} (hI : IV S) (o_v0 : ob S v0 9) {rr w1 w2 l9 p9 q9 : Nat} {A : AS} {G : GC} (J : CJ v0 rr w1 w2 S) (hc : Cnt w1 A S) (ct : CtB w1 A G S S) (ab : ABd A) (gb : GBd A G) (lg : LG v0 l9 p9 q9 S) {dy : Nat} {D : DY} (e6 : fR S v0 6 = some dy) (cd : CDd dy D S) (db : DBd A D) (hq : ∀ (r : Int32) (T : HS), IV T → Gr S T → FRI [(0, 2), (2, 0), (2, 1), (9, 9)] [] S T → K2 S T → (NFq 9 9 c9 v0 T) → ((((K7 S T ∧ K8 S T) ∧ K9 false LA S T) ∧ (KJ LWJ S T ∧ K9 false LWL S T)) ∧ r = tellgo A G D v1 v2 v3 ∧ CDd dy (nxgo A G D v1 v2 v3) T) → Q r T) : P_X9_go v0 v1 v2 v3 Q S := cm_X9_go (cm_X9_go (Q3 := fun r T => (IV T ∧ Gr S T ∧ (FRI [(0, 2), (2, 0), (2, 1), (9, 9)] [] S T) ∧ K2 S T ∧ ((NFq 9 9 c9 v0 T))) ∧ (((K7 S T ∧ K8 S T) ∧ K9 false LA S T) ∧ (KJ LWJ S T ∧ K9 false LWL S T)) ∧ r = tellgo A G D v1 v2 v3 ∧ CDd dy (nxgo A G D v1 v2 v3) T) (cm_X9_go (Q3 := fun r T => (IV T ∧ Gr S T ∧ (FRI [(0, 2), (2, 0), (2, 1), (9, 9)] [] S T) ∧ K2 S T ∧ ((NFq 9 9 c9 v0 T))) ∧ ((K7 S T ∧ K8 S T) ∧ K9 false LA S T) ∧ (KJ LWJ S T ∧ K9 false LWL S T)) (cm_X9_go (Q3 := fun r T => (IV T ∧ Gr S T ∧ (FRI [(0, 2), (2, 0), (2, 1), (9, 9)] [] S T) ∧ K2 S T ∧ ((NFq 9 9 c9 v0 T))) ∧ (K7 S T ∧ K8 S T) ∧ K9 false LA S T) (cm_X9_go (Q3 := fun r T => (IV T ∧ Gr S T ∧ (FRI [(0, 2), (2, 0), (2, 1), (9, 9)] [] S T) ∧ K2 S T ∧ ((NFq 9 9 c9 v0 T))) ∧ K7 S T ∧ K8 S T) (kw_X9_go (mn_X9_go (Q := fun r T => IV T ∧ Gr S T ∧ (FRI [(0, 2), (2, 0), (2, 1), (9, 9)] [] S T) ∧ K2 S T ∧ ((NFq 9 9 c9 v0 T))) hI o_v0 (fun r T h0 h1 h2 h3 h4 => ⟨h0, h1, h2, h3, h4⟩))) (kx_X9_go (mn_X9_go (Q := fun r T => IV T ∧ Gr S T ∧ (FRI [(0, 2), (2, 0), (2, 1), (9, 9)] [] S T) ∧ K2 S T ∧ ((NFq 9 9 c9 v0 T))) hI o_v0 (fun r T h0 h1 h2 h3 h4 => ⟨h0, h1, h2, h3, h4⟩))) (fun r T a b => ⟨a.1, a.2, b.2⟩)) (ky_X9_go (b := false) (L := LA) (by decide) (by decide) (fun _ => rfl) (mn_X9_go (Q := fun r T => IV T ∧ Gr S T ∧ (FRI [(0, 2), (2, 0), (2, 1), (9, 9)] [] S T) ∧ K2 S T ∧ ((NFq 9 9 c9 v0 T))) hI o_v0 (fun r T h0 h1 h2 h3 h4 => ⟨h0, h1, h2, h3, h4⟩))) (fun r T a b => ⟨a.1, a.2, b.2⟩)) (cm_X9_go (Q3 := fun r T => (IV T ∧ Gr S T ∧ (FRI [(0, 2), (2, 0), (2, 1), (9, 9)] [] S T) ∧ K2 S T ∧ ((NFq 9 9 c9 v0 T))) ∧ (KJ LWJ S T ∧ K9 false LWL S T)) (kj_X9_go (L := LWJ) (by decide) (by decide) (mn_X9_go (Q := fun r T => IV T ∧ Gr S T ∧ (FRI [(0, 2), (2, 0), (2, 1), (9, 9)] [] S T) ∧ K2 S T ∧ ((NFq 9 9 c9 v0 T))) hI o_v0 (fun r T h0 h1 h2 h3 h4 => ⟨h0, h1, h2, h3, h4⟩))) (ky_X9_go (b := false) (L := LWL) (by decide) (by decide) (fun _ => rfl) (mn_X9_go (Q := fun r T => IV T ∧ Gr S T ∧ (FRI [(0, 2), (2, 0), (2, 1), (9, 9)] [] S T) ∧ K2 S T ∧ ((NFq 9 9 c9 v0 T))) hI o_v0 (fun r T h0 h1 h2 h3 h4 => ⟨h0, h1, h2, h3, h4⟩))) (fun r T a b => ⟨a.1, a.2, b.2⟩)) (fun r T a b => ⟨a.1, a.2, b.2⟩)) (tl_X9_go hI J hc ct ab gb lg e6 cd db (mn_X9_go (Q := fun r T => IV T ∧ Gr S T ∧ (FRI [(0, 2), (2, 0), (2, 1), (9, 9)] [] S T) ∧ K2 S T ∧ ((NFq 9 9 c9 v0 T))) hI o_v0 (fun r T h0 h1 h2 h3 h4 => ⟨h0, h1, h2, h3, h4⟩))) (fun r T a b => ⟨a.1, a.2, b.2⟩)) (mn_X9_go (Q := fun r T => IV T ∧ Gr S T ∧ (FRI [(0, 2), (2, 0), (2, 1), (9, 9)] [] S T) ∧ K2 S T ∧ ((NFq 9 9 c9 v0 T))) hI o_v0 (fun r T h0 h1 h2 h3 h4 => ⟨h0, h1, h2, h3, h4⟩)) (fun r T h _ => hq r T h.1.1 h.1.2.1 h.1.2.2.1 h.1.2.2.2.1 h.1.2.2.2.2 h.2)
theorem mz_X9_got {v0 : Nat} {v1 : Int32} {v2 : Int32} {Q : Int64 → HS → Prop} {S : HS} (hI : IV S) (o_v0 : ob S v0 9)  (hq : ∀ (r : Int64) (T : HS), IV T → Gr S T → FRI [(9, 9)] [] S T → K2 S T → (NFq 9 9 c9 v0 T) → (((K7 S T ∧ K8 S T) ∧ (K9 false LA S T ∧ K9 true LB S T)) ∧ (KJ LWJ S T ∧ K9 false LWL S T)) → Q r T) : P_X9_got v0 v1 v2 Q S := cm_X9_got (cm_X9_got (Q3 := fun r T => (IV T ∧ Gr S T ∧ (FRI [(9, 9)] [] S T) ∧ K2 S T ∧ ((NFq 9 9 c9 v0 T))) ∧ ((K7 S T ∧ K8 S T) ∧ (K9 false LA S T ∧ K9 true LB S T)) ∧ (KJ LWJ S T ∧ K9 false LWL S T)) (cm_X9_got (Q3 := fun r T => (IV T ∧ Gr S T ∧ (FRI [(9, 9)] [] S T) ∧ K2 S T ∧ ((NFq 9 9 c9 v0 T))) ∧ (K7 S T ∧ K8 S T) ∧ (K9 false LA S T ∧ K9 true LB S T)) (cm_X9_got (Q3 := fun r T => (IV T ∧ Gr S T ∧ (FRI [(9, 9)] [] S T) ∧ K2 S T ∧ ((NFq 9 9 c9 v0 T))) ∧ K7 S T ∧ K8 S T) (kw_X9_got (mn_X9_got (Q := fun r T => IV T ∧ Gr S T ∧ (FRI [(9, 9)] [] S T) ∧ K2 S T ∧ ((NFq 9 9 c9 v0 T))) hI o_v0 (fun r T h0 h1 h2 h3 h4 => ⟨h0, h1, h2, h3, h4⟩))) (kx_X9_got (mn_X9_got (Q := fun r T => IV T ∧ Gr S T ∧ (FRI [(9, 9)] [] S T) ∧ K2 S T ∧ ((NFq 9 9 c9 v0 T))) hI o_v0 (fun r T h0 h1 h2 h3 h4 => ⟨h0, h1, h2, h3, h4⟩))) (fun r T a b => ⟨a.1, a.2, b.2⟩)) (cm_X9_got (Q3 := fun r T => (IV T ∧ Gr S T ∧ (FRI [(9, 9)] [] S T) ∧ K2 S T ∧ ((NFq 9 9 c9 v0 T))) ∧ (K9 false LA S T ∧ K9 true LB S T)) (ky_X9_got (b := false) (L := LA) (by decide) (by decide) (fun _ => rfl) (mn_X9_got (Q := fun r T => IV T ∧ Gr S T ∧ (FRI [(9, 9)] [] S T) ∧ K2 S T ∧ ((NFq 9 9 c9 v0 T))) hI o_v0 (fun r T h0 h1 h2 h3 h4 => ⟨h0, h1, h2, h3, h4⟩))) (ky_X9_got (b := true) (L := LB) (by decide) (by decide) (fun z => z.elim) (mn_X9_got (Q := fun r T => IV T ∧ Gr S T ∧ (FRI [(9, 9)] [] S T) ∧ K2 S T ∧ ((NFq 9 9 c9 v0 T))) hI o_v0 (fun r T h0 h1 h2 h3 h4 => ⟨h0, h1, h2, h3, h4⟩))) (fun r T a b => ⟨a.1, a.2, b.2⟩)) (fun r T a b => ⟨a.1, a.2, b.2⟩)) (cm_X9_got (Q3 := fun r T => (IV T ∧ Gr S T ∧ (FRI [(9, 9)] [] S T) ∧ K2 S T ∧ ((NFq 9 9 c9 v0 T))) ∧ (KJ LWJ S T ∧ K9 false LWL S T)) (kj_X9_got (L := LWJ) (by decide) (by decide) (mn_X9_got (Q := fun r T => IV T ∧ Gr S T ∧ (FRI [(9, 9)] [] S T) ∧ K2 S T ∧ ((NFq 9 9 c9 v0 T))) hI o_v0 (fun r T h0 h1 h2 h3 h4 => ⟨h0, h1, h2, h3, h4⟩))) (ky_X9_got (b := false) (L := LWL) (by decide) (by decide) (fun _ => rfl) (mn_X9_got (Q := fun r T => IV T ∧ Gr S T ∧ (FRI [(9, 9)] [] S T) ∧ K2 S T ∧ ((NFq 9 9 c9 v0 T))) hI o_v0 (fun r T h0 h1 h2 h3 h4 => ⟨h0, h1, h2, h3, h4⟩))) (fun r T a b => ⟨a.1, a.2, b.2⟩)) (fun r T a b => ⟨a.1, a.2, b.2⟩)) (mn_X9_got (Q := fun r T => IV T ∧ Gr S T ∧ (FRI [(9, 9)] [] S T) ∧ K2 S T ∧ ((NFq 9 9 c9 v0 T))) hI o_v0 (fun r T h0 h1 h2 h3 h4 => ⟨h0, h1, h2, h3, h4⟩)) (fun r T h _ => hq r T h.1.1 h.1.2.1 h.1.2.2.1 h.1.2.2.2.1 h.1.2.2.2.2 h.2)
theorem mz_X9_held {v0 : Nat} {v1 : Int32} {v2 : Int32} {v3 : Int32} {v4 : Int32} {v5 : Int32} {Q : Int32 → HS → Prop} {S : HS} (hI : IV S) (o_v0 : ob S v0 9)  (hq : ∀ (r : Int32) (T : HS), IV T → Gr S T → FRI [(9, 9)] [] S T → K2 S T → (NFq 9 9 c9 v0 T) → (((K7 S T ∧ K8 S T) ∧ (K9 false LA S T ∧ K9 true LB S T)) ∧ (KJ LWJ S T ∧ K9 false LWL S T)) → Q r T) : P_X9_held v0 v1 v2 v3 v4 v5 Q S := cm_X9_held (cm_X9_held (Q3 := fun r T => (IV T ∧ Gr S T ∧ (FRI [(9, 9)] [] S T) ∧ K2 S T ∧ ((NFq 9 9 c9 v0 T))) ∧ ((K7 S T ∧ K8 S T) ∧ (K9 false LA S T ∧ K9 true LB S T)) ∧ (KJ LWJ S T ∧ K9 false LWL S T)) (cm_X9_held (Q3 := fun r T => (IV T ∧ Gr S T ∧ (FRI [(9, 9)] [] S T) ∧ K2 S T ∧ ((NFq 9 9 c9 v0 T))) ∧ (K7 S T ∧ K8 S T) ∧ (K9 false LA S T ∧ K9 true LB S T)) (cm_X9_held (Q3 := fun r T => (IV T ∧ Gr S T ∧ (FRI [(9, 9)] [] S T) ∧ K2 S T ∧ ((NFq 9 9 c9 v0 T))) ∧ K7 S T ∧ K8 S T) (kw_X9_held (mn_X9_held (Q := fun r T => IV T ∧ Gr S T ∧ (FRI [(9, 9)] [] S T) ∧ K2 S T ∧ ((NFq 9 9 c9 v0 T))) hI o_v0 (fun r T h0 h1 h2 h3 h4 => ⟨h0, h1, h2, h3, h4⟩))) (kx_X9_held (mn_X9_held (Q := fun r T => IV T ∧ Gr S T ∧ (FRI [(9, 9)] [] S T) ∧ K2 S T ∧ ((NFq 9 9 c9 v0 T))) hI o_v0 (fun r T h0 h1 h2 h3 h4 => ⟨h0, h1, h2, h3, h4⟩))) (fun r T a b => ⟨a.1, a.2, b.2⟩)) (cm_X9_held (Q3 := fun r T => (IV T ∧ Gr S T ∧ (FRI [(9, 9)] [] S T) ∧ K2 S T ∧ ((NFq 9 9 c9 v0 T))) ∧ (K9 false LA S T ∧ K9 true LB S T)) (ky_X9_held (b := false) (L := LA) (by decide) (by decide) (fun _ => rfl) (mn_X9_held (Q := fun r T => IV T ∧ Gr S T ∧ (FRI [(9, 9)] [] S T) ∧ K2 S T ∧ ((NFq 9 9 c9 v0 T))) hI o_v0 (fun r T h0 h1 h2 h3 h4 => ⟨h0, h1, h2, h3, h4⟩))) (ky_X9_held (b := true) (L := LB) (by decide) (by decide) (fun z => z.elim) (mn_X9_held (Q := fun r T => IV T ∧ Gr S T ∧ (FRI [(9, 9)] [] S T) ∧ K2 S T ∧ ((NFq 9 9 c9 v0 T))) hI o_v0 (fun r T h0 h1 h2 h3 h4 => ⟨h0, h1, h2, h3, h4⟩))) (fun r T a b => ⟨a.1, a.2, b.2⟩)) (fun r T a b => ⟨a.1, a.2, b.2⟩)) (cm_X9_held (Q3 := fun r T => (IV T ∧ Gr S T ∧ (FRI [(9, 9)] [] S T) ∧ K2 S T ∧ ((NFq 9 9 c9 v0 T))) ∧ (KJ LWJ S T ∧ K9 false LWL S T)) (kj_X9_held (L := LWJ) (by decide) (by decide) (mn_X9_held (Q := fun r T => IV T ∧ Gr S T ∧ (FRI [(9, 9)] [] S T) ∧ K2 S T ∧ ((NFq 9 9 c9 v0 T))) hI o_v0 (fun r T h0 h1 h2 h3 h4 => ⟨h0, h1, h2, h3, h4⟩))) (ky_X9_held (b := false) (L := LWL) (by decide) (by decide) (fun _ => rfl) (mn_X9_held (Q := fun r T => IV T ∧ Gr S T ∧ (FRI [(9, 9)] [] S T) ∧ K2 S T ∧ ((NFq 9 9 c9 v0 T))) hI o_v0 (fun r T h0 h1 h2 h3 h4 => ⟨h0, h1, h2, h3, h4⟩))) (fun r T a b => ⟨a.1, a.2, b.2⟩)) (fun r T a b => ⟨a.1, a.2, b.2⟩)) (mn_X9_held (Q := fun r T => IV T ∧ Gr S T ∧ (FRI [(9, 9)] [] S T) ∧ K2 S T ∧ ((NFq 9 9 c9 v0 T))) hI o_v0 (fun r T h0 h1 h2 h3 h4 => ⟨h0, h1, h2, h3, h4⟩)) (fun r T h _ => hq r T h.1.1 h.1.2.1 h.1.2.2.1 h.1.2.2.2.1 h.1.2.2.2.2 h.2)
theorem mt_X9_least {v0 : Nat} {v1 : Int32} {v2 : Int32} {v3 : Int32} {v4 : Int32} {v5 : Int32} {v6 : Int32} {Q : Int64 → HS → Prop} {S : HS} (hI : IV S) (o_v0 : ob S v0 9) {rr w1 w2 l9 p9 q9 : Nat} {A : AS} {G : GC} (J : CJ v0 rr w1 w2 S) (hc : Cnt w1 A S) (ct : CtB w1 A G S S) (ab : ABd A) (gb : GBd A G) (ge : GBe A G) (lg : LG v0 l9 p9 q9 S) (wd : WYd v0 A G S) (hq : ∀ (r : Int64) (T : HS), IV T → Gr S T → FRI [(7, 3), (7, 9), (7, 10), (7, 11), (7, 12), (7, 13), (9, 9)] [(7, 0), (7, 1), (7, 2), (7, 4), (7, 5), (7, 6), (7, 7), (7, 8)] S T → K2 S T → (NFq 9 9 c9 v0 T) → (((K7 S T ∧ K8 S T) ∧ (K9 false LA S T ∧ K9 true LB S T)) ∧ r = tellleast A G v1 v2 v3 v4 v5 v6 ∧ WYd v0 A G T) → Q r T) : P_X9_least v0 v1 v2 v3 v4 v5 v6 Q S := cm_X9_least (cm_X9_least (Q3 := fun r T => (IV T ∧ Gr S T ∧ (FRI [(7, 3), (7, 9), (7, 10), (7, 11), (7, 12), (7, 13), (9, 9)] [(7, 0), (7, 1), (7, 2), (7, 4), (7, 5), (7, 6), (7, 7), (7, 8)] S T) ∧ K2 S T ∧ ((NFq 9 9 c9 v0 T))) ∧ ((K7 S T ∧ K8 S T) ∧ (K9 false LA S T ∧ K9 true LB S T)) ∧ r = tellleast A G v1 v2 v3 v4 v5 v6 ∧ WYd v0 A G T) (cm_X9_least (Q3 := fun r T => (IV T ∧ Gr S T ∧ (FRI [(7, 3), (7, 9), (7, 10), (7, 11), (7, 12), (7, 13), (9, 9)] [(7, 0), (7, 1), (7, 2), (7, 4), (7, 5), (7, 6), (7, 7), (7, 8)] S T) ∧ K2 S T ∧ ((NFq 9 9 c9 v0 T))) ∧ (K7 S T ∧ K8 S T) ∧ (K9 false LA S T ∧ K9 true LB S T)) (cm_X9_least (Q3 := fun r T => (IV T ∧ Gr S T ∧ (FRI [(7, 3), (7, 9), (7, 10), (7, 11), (7, 12), (7, 13), (9, 9)] [(7, 0), (7, 1), (7, 2), (7, 4), (7, 5), (7, 6), (7, 7), (7, 8)] S T) ∧ K2 S T ∧ ((NFq 9 9 c9 v0 T))) ∧ K7 S T ∧ K8 S T) (kw_X9_least (mn_X9_least (Q := fun r T => IV T ∧ Gr S T ∧ (FRI [(7, 3), (7, 9), (7, 10), (7, 11), (7, 12), (7, 13), (9, 9)] [(7, 0), (7, 1), (7, 2), (7, 4), (7, 5), (7, 6), (7, 7), (7, 8)] S T) ∧ K2 S T ∧ ((NFq 9 9 c9 v0 T))) hI o_v0 (fun r T h0 h1 h2 h3 h4 => ⟨h0, h1, h2, h3, h4⟩))) (kx_X9_least (mn_X9_least (Q := fun r T => IV T ∧ Gr S T ∧ (FRI [(7, 3), (7, 9), (7, 10), (7, 11), (7, 12), (7, 13), (9, 9)] [(7, 0), (7, 1), (7, 2), (7, 4), (7, 5), (7, 6), (7, 7), (7, 8)] S T) ∧ K2 S T ∧ ((NFq 9 9 c9 v0 T))) hI o_v0 (fun r T h0 h1 h2 h3 h4 => ⟨h0, h1, h2, h3, h4⟩))) (fun r T a b => ⟨a.1, a.2, b.2⟩)) (cm_X9_least (Q3 := fun r T => (IV T ∧ Gr S T ∧ (FRI [(7, 3), (7, 9), (7, 10), (7, 11), (7, 12), (7, 13), (9, 9)] [(7, 0), (7, 1), (7, 2), (7, 4), (7, 5), (7, 6), (7, 7), (7, 8)] S T) ∧ K2 S T ∧ ((NFq 9 9 c9 v0 T))) ∧ (K9 false LA S T ∧ K9 true LB S T)) (ky_X9_least (b := false) (L := LA) (by decide) (by decide) (fun _ => rfl) (mn_X9_least (Q := fun r T => IV T ∧ Gr S T ∧ (FRI [(7, 3), (7, 9), (7, 10), (7, 11), (7, 12), (7, 13), (9, 9)] [(7, 0), (7, 1), (7, 2), (7, 4), (7, 5), (7, 6), (7, 7), (7, 8)] S T) ∧ K2 S T ∧ ((NFq 9 9 c9 v0 T))) hI o_v0 (fun r T h0 h1 h2 h3 h4 => ⟨h0, h1, h2, h3, h4⟩))) (ky_X9_least (b := true) (L := LB) (by decide) (by decide) (fun z => z.elim) (mn_X9_least (Q := fun r T => IV T ∧ Gr S T ∧ (FRI [(7, 3), (7, 9), (7, 10), (7, 11), (7, 12), (7, 13), (9, 9)] [(7, 0), (7, 1), (7, 2), (7, 4), (7, 5), (7, 6), (7, 7), (7, 8)] S T) ∧ K2 S T ∧ ((NFq 9 9 c9 v0 T))) hI o_v0 (fun r T h0 h1 h2 h3 h4 => ⟨h0, h1, h2, h3, h4⟩))) (fun r T a b => ⟨a.1, a.2, b.2⟩)) (fun r T a b => ⟨a.1, a.2, b.2⟩)) (tl_X9_least hI o_v0 ab gb ge J.1 (wt_of hI J hc ct ab) lg wd (mn_X9_least (Q := fun r T => IV T ∧ Gr S T ∧ (FRI [(7, 3), (7, 9), (7, 10), (7, 11), (7, 12), (7, 13), (9, 9)] [(7, 0), (7, 1), (7, 2), (7, 4), (7, 5), (7, 6), (7, 7), (7, 8)] S T) ∧ K2 S T ∧ ((NFq 9 9 c9 v0 T))) hI o_v0 (fun r T h0 h1 h2 h3 h4 => ⟨h0, h1, h2, h3, h4⟩))) (fun r T a b => ⟨a.1, a.2, b.2⟩)) (mn_X9_least (Q := fun r T => IV T ∧ Gr S T ∧ (FRI [(7, 3), (7, 9), (7, 10), (7, 11), (7, 12), (7, 13), (9, 9)] [(7, 0), (7, 1), (7, 2), (7, 4), (7, 5), (7, 6), (7, 7), (7, 8)] S T) ∧ K2 S T ∧ ((NFq 9 9 c9 v0 T))) hI o_v0 (fun r T h0 h1 h2 h3 h4 => ⟨h0, h1, h2, h3, h4⟩)) (fun r T h _ => hq r T h.1.1 h.1.2.1 h.1.2.2.1 h.1.2.2.2.1 h.1.2.2.2.2 h.2)
theorem mz_X9_lee {v0 : Nat} {v1 : Int32} {v2 : Int32} {v3 : Int32} {v4 : Int32} {v5 : Int32} {v6 : Int32} {v7 : Int32} {Q : Int64 → HS → Prop} {S : HS} (hI : IV S) (o_v0 : ob S v0 9)  (hq : ∀ (r : Int64) (T : HS), IV T → Gr S T → FRI [(9, 9)] [] S T → K2 S T → (NFq 9 9 c9 v0 T) → (((K7 S T ∧ K8 S T) ∧ (K9 false LA S T ∧ K9 true LB S T)) ∧ (KJ LWJ S T ∧ K9 false LWL S T)) → Q r T) : P_X9_lee v0 v1 v2 v3 v4 v5 v6 v7 Q S := cm_X9_lee (cm_X9_lee (Q3 := fun r T => (IV T ∧ Gr S T ∧ (FRI [(9, 9)] [] S T) ∧ K2 S T ∧ ((NFq 9 9 c9 v0 T))) ∧ ((K7 S T ∧ K8 S T) ∧ (K9 false LA S T ∧ K9 true LB S T)) ∧ (KJ LWJ S T ∧ K9 false LWL S T)) (cm_X9_lee (Q3 := fun r T => (IV T ∧ Gr S T ∧ (FRI [(9, 9)] [] S T) ∧ K2 S T ∧ ((NFq 9 9 c9 v0 T))) ∧ (K7 S T ∧ K8 S T) ∧ (K9 false LA S T ∧ K9 true LB S T)) (cm_X9_lee (Q3 := fun r T => (IV T ∧ Gr S T ∧ (FRI [(9, 9)] [] S T) ∧ K2 S T ∧ ((NFq 9 9 c9 v0 T))) ∧ K7 S T ∧ K8 S T) (kw_X9_lee (mn_X9_lee (Q := fun r T => IV T ∧ Gr S T ∧ (FRI [(9, 9)] [] S T) ∧ K2 S T ∧ ((NFq 9 9 c9 v0 T))) hI o_v0 (fun r T h0 h1 h2 h3 h4 => ⟨h0, h1, h2, h3, h4⟩))) (kx_X9_lee (mn_X9_lee (Q := fun r T => IV T ∧ Gr S T ∧ (FRI [(9, 9)] [] S T) ∧ K2 S T ∧ ((NFq 9 9 c9 v0 T))) hI o_v0 (fun r T h0 h1 h2 h3 h4 => ⟨h0, h1, h2, h3, h4⟩))) (fun r T a b => ⟨a.1, a.2, b.2⟩)) (cm_X9_lee (Q3 := fun r T => (IV T ∧ Gr S T ∧ (FRI [(9, 9)] [] S T) ∧ K2 S T ∧ ((NFq 9 9 c9 v0 T))) ∧ (K9 false LA S T ∧ K9 true LB S T)) (ky_X9_lee (b := false) (L := LA) (by decide) (by decide) (fun _ => rfl) (mn_X9_lee (Q := fun r T => IV T ∧ Gr S T ∧ (FRI [(9, 9)] [] S T) ∧ K2 S T ∧ ((NFq 9 9 c9 v0 T))) hI o_v0 (fun r T h0 h1 h2 h3 h4 => ⟨h0, h1, h2, h3, h4⟩))) (ky_X9_lee (b := true) (L := LB) (by decide) (by decide) (fun z => z.elim) (mn_X9_lee (Q := fun r T => IV T ∧ Gr S T ∧ (FRI [(9, 9)] [] S T) ∧ K2 S T ∧ ((NFq 9 9 c9 v0 T))) hI o_v0 (fun r T h0 h1 h2 h3 h4 => ⟨h0, h1, h2, h3, h4⟩))) (fun r T a b => ⟨a.1, a.2, b.2⟩)) (fun r T a b => ⟨a.1, a.2, b.2⟩)) (cm_X9_lee (Q3 := fun r T => (IV T ∧ Gr S T ∧ (FRI [(9, 9)] [] S T) ∧ K2 S T ∧ ((NFq 9 9 c9 v0 T))) ∧ (KJ LWJ S T ∧ K9 false LWL S T)) (kj_X9_lee (L := LWJ) (by decide) (by decide) (mn_X9_lee (Q := fun r T => IV T ∧ Gr S T ∧ (FRI [(9, 9)] [] S T) ∧ K2 S T ∧ ((NFq 9 9 c9 v0 T))) hI o_v0 (fun r T h0 h1 h2 h3 h4 => ⟨h0, h1, h2, h3, h4⟩))) (ky_X9_lee (b := false) (L := LWL) (by decide) (by decide) (fun _ => rfl) (mn_X9_lee (Q := fun r T => IV T ∧ Gr S T ∧ (FRI [(9, 9)] [] S T) ∧ K2 S T ∧ ((NFq 9 9 c9 v0 T))) hI o_v0 (fun r T h0 h1 h2 h3 h4 => ⟨h0, h1, h2, h3, h4⟩))) (fun r T a b => ⟨a.1, a.2, b.2⟩)) (fun r T a b => ⟨a.1, a.2, b.2⟩)) (mn_X9_lee (Q := fun r T => IV T ∧ Gr S T ∧ (FRI [(9, 9)] [] S T) ∧ K2 S T ∧ ((NFq 9 9 c9 v0 T))) hI o_v0 (fun r T h0 h1 h2 h3 h4 => ⟨h0, h1, h2, h3, h4⟩)) (fun r T h _ => hq r T h.1.1 h.1.2.1 h.1.2.2.1 h.1.2.2.2.1 h.1.2.2.2.2 h.2)
theorem mz_X9_lies {v0 : Nat} {Q : Int32 → HS → Prop} {S : HS} (hI : IV S) (o_v0 : ob S v0 9)  (hq : ∀ (r : Int32) (T : HS), IV T → Gr S T → FRI [(9, 9)] [] S T → K2 S T → (NFq 9 9 c9 v0 T) → (((K7 S T ∧ K8 S T) ∧ (K9 false LA S T ∧ K9 true LB S T)) ∧ (KJ LWJ S T ∧ K9 false LWL S T)) → Q r T) : P_X9_lies v0 Q S := cm_X9_lies (cm_X9_lies (Q3 := fun r T => (IV T ∧ Gr S T ∧ (FRI [(9, 9)] [] S T) ∧ K2 S T ∧ ((NFq 9 9 c9 v0 T))) ∧ ((K7 S T ∧ K8 S T) ∧ (K9 false LA S T ∧ K9 true LB S T)) ∧ (KJ LWJ S T ∧ K9 false LWL S T)) (cm_X9_lies (Q3 := fun r T => (IV T ∧ Gr S T ∧ (FRI [(9, 9)] [] S T) ∧ K2 S T ∧ ((NFq 9 9 c9 v0 T))) ∧ (K7 S T ∧ K8 S T) ∧ (K9 false LA S T ∧ K9 true LB S T)) (cm_X9_lies (Q3 := fun r T => (IV T ∧ Gr S T ∧ (FRI [(9, 9)] [] S T) ∧ K2 S T ∧ ((NFq 9 9 c9 v0 T))) ∧ K7 S T ∧ K8 S T) (kw_X9_lies (mn_X9_lies (Q := fun r T => IV T ∧ Gr S T ∧ (FRI [(9, 9)] [] S T) ∧ K2 S T ∧ ((NFq 9 9 c9 v0 T))) hI o_v0 (fun r T h0 h1 h2 h3 h4 => ⟨h0, h1, h2, h3, h4⟩))) (kx_X9_lies (mn_X9_lies (Q := fun r T => IV T ∧ Gr S T ∧ (FRI [(9, 9)] [] S T) ∧ K2 S T ∧ ((NFq 9 9 c9 v0 T))) hI o_v0 (fun r T h0 h1 h2 h3 h4 => ⟨h0, h1, h2, h3, h4⟩))) (fun r T a b => ⟨a.1, a.2, b.2⟩)) (cm_X9_lies (Q3 := fun r T => (IV T ∧ Gr S T ∧ (FRI [(9, 9)] [] S T) ∧ K2 S T ∧ ((NFq 9 9 c9 v0 T))) ∧ (K9 false LA S T ∧ K9 true LB S T)) (ky_X9_lies (b := false) (L := LA) (by decide) (by decide) (fun _ => rfl) (mn_X9_lies (Q := fun r T => IV T ∧ Gr S T ∧ (FRI [(9, 9)] [] S T) ∧ K2 S T ∧ ((NFq 9 9 c9 v0 T))) hI o_v0 (fun r T h0 h1 h2 h3 h4 => ⟨h0, h1, h2, h3, h4⟩))) (ky_X9_lies (b := true) (L := LB) (by decide) (by decide) (fun z => z.elim) (mn_X9_lies (Q := fun r T => IV T ∧ Gr S T ∧ (FRI [(9, 9)] [] S T) ∧ K2 S T ∧ ((NFq 9 9 c9 v0 T))) hI o_v0 (fun r T h0 h1 h2 h3 h4 => ⟨h0, h1, h2, h3, h4⟩))) (fun r T a b => ⟨a.1, a.2, b.2⟩)) (fun r T a b => ⟨a.1, a.2, b.2⟩)) (cm_X9_lies (Q3 := fun r T => (IV T ∧ Gr S T ∧ (FRI [(9, 9)] [] S T) ∧ K2 S T ∧ ((NFq 9 9 c9 v0 T))) ∧ (KJ LWJ S T ∧ K9 false LWL S T)) (kj_X9_lies (L := LWJ) (by decide) (by decide) (mn_X9_lies (Q := fun r T => IV T ∧ Gr S T ∧ (FRI [(9, 9)] [] S T) ∧ K2 S T ∧ ((NFq 9 9 c9 v0 T))) hI o_v0 (fun r T h0 h1 h2 h3 h4 => ⟨h0, h1, h2, h3, h4⟩))) (ky_X9_lies (b := false) (L := LWL) (by decide) (by decide) (fun _ => rfl) (mn_X9_lies (Q := fun r T => IV T ∧ Gr S T ∧ (FRI [(9, 9)] [] S T) ∧ K2 S T ∧ ((NFq 9 9 c9 v0 T))) hI o_v0 (fun r T h0 h1 h2 h3 h4 => ⟨h0, h1, h2, h3, h4⟩))) (fun r T a b => ⟨a.1, a.2, b.2⟩)) (fun r T a b => ⟨a.1, a.2, b.2⟩)) (mn_X9_lies (Q := fun r T => IV T ∧ Gr S T ∧ (FRI [(9, 9)] [] S T) ∧ K2 S T ∧ ((NFq 9 9 c9 v0 T))) hI o_v0 (fun r T h0 h1 h2 h3 h4 => ⟨h0, h1, h2, h3, h4⟩)) (fun r T h _ => hq r T h.1.1 h.1.2.1 h.1.2.2.1 h.1.2.2.2.1 h.1.2.2.2.2 h.2)
theorem mt_X9_mark {v0 : Nat} {Q : Int32 → HS → Prop} {S : HS} (hI : IV S) (o_v0 : ob S v0 9) {rr w1 w2 l9 p9 q9 : Nat} {A : AS} {G : GC} (J : CJ v0 rr w1 w2 S) (hc : Cnt w1 A S) (ct : CtB w1 A G S S) (ab : ABd A) (gb : GBd A G) (lg : LG v0 l9 p9 q9 S) {dy : Nat} {D : DY} (e6 : fR S v0 6 = some dy) (cd : CDd dy D S) (db : DBd A D) (hq : ∀ (r : Int32) (T : HS), IV T → Gr S T → FRI [(0, 3), (2, 0), (2, 1), (9, 9)] [] S T → K2 S T → (NFq 9 9 c9 v0 T) → ((((K7 S T ∧ K8 S T) ∧ K9 false LA S T) ∧ (KJ LWJ S T ∧ K9 false LWL S T)) ∧ r = tellmark D ∧ CDd dy (nxmark D) T) → Q r T) : P_X9_mark v0 Q S := cm_X9_mark (cm_X9_mark (Q3 := fun r T => (IV T ∧ Gr S T ∧ (FRI [(0, 3), (2, 0), (2, 1), (9, 9)] [] S T) ∧ K2 S T ∧ ((NFq 9 9 c9 v0 T))) ∧ (((K7 S T ∧ K8 S T) ∧ K9 false LA S T) ∧ (KJ LWJ S T ∧ K9 false LWL S T)) ∧ r = tellmark D ∧ CDd dy (nxmark D) T) (cm_X9_mark (Q3 := fun r T => (IV T ∧ Gr S T ∧ (FRI [(0, 3), (2, 0), (2, 1), (9, 9)] [] S T) ∧ K2 S T ∧ ((NFq 9 9 c9 v0 T))) ∧ ((K7 S T ∧ K8 S T) ∧ K9 false LA S T) ∧ (KJ LWJ S T ∧ K9 false LWL S T)) (cm_X9_mark (Q3 := fun r T => (IV T ∧ Gr S T ∧ (FRI [(0, 3), (2, 0), (2, 1), (9, 9)] [] S T) ∧ K2 S T ∧ ((NFq 9 9 c9 v0 T))) ∧ (K7 S T ∧ K8 S T) ∧ K9 false LA S T) (cm_X9_mark (Q3 := fun r T => (IV T ∧ Gr S T ∧ (FRI [(0, 3), (2, 0), (2, 1), (9, 9)] [] S T) ∧ K2 S T ∧ ((NFq 9 9 c9 v0 T))) ∧ K7 S T ∧ K8 S T) (kw_X9_mark (mn_X9_mark (Q := fun r T => IV T ∧ Gr S T ∧ (FRI [(0, 3), (2, 0), (2, 1), (9, 9)] [] S T) ∧ K2 S T ∧ ((NFq 9 9 c9 v0 T))) hI o_v0 (fun r T h0 h1 h2 h3 h4 => ⟨h0, h1, h2, h3, h4⟩))) (kx_X9_mark (mn_X9_mark (Q := fun r T => IV T ∧ Gr S T ∧ (FRI [(0, 3), (2, 0), (2, 1), (9, 9)] [] S T) ∧ K2 S T ∧ ((NFq 9 9 c9 v0 T))) hI o_v0 (fun r T h0 h1 h2 h3 h4 => ⟨h0, h1, h2, h3, h4⟩))) (fun r T a b => ⟨a.1, a.2, b.2⟩)) (ky_X9_mark (b := false) (L := LA) (by decide) (by decide) (fun _ => rfl) (mn_X9_mark (Q := fun r T => IV T ∧ Gr S T ∧ (FRI [(0, 3), (2, 0), (2, 1), (9, 9)] [] S T) ∧ K2 S T ∧ ((NFq 9 9 c9 v0 T))) hI o_v0 (fun r T h0 h1 h2 h3 h4 => ⟨h0, h1, h2, h3, h4⟩))) (fun r T a b => ⟨a.1, a.2, b.2⟩)) (cm_X9_mark (Q3 := fun r T => (IV T ∧ Gr S T ∧ (FRI [(0, 3), (2, 0), (2, 1), (9, 9)] [] S T) ∧ K2 S T ∧ ((NFq 9 9 c9 v0 T))) ∧ (KJ LWJ S T ∧ K9 false LWL S T)) (kj_X9_mark (L := LWJ) (by decide) (by decide) (mn_X9_mark (Q := fun r T => IV T ∧ Gr S T ∧ (FRI [(0, 3), (2, 0), (2, 1), (9, 9)] [] S T) ∧ K2 S T ∧ ((NFq 9 9 c9 v0 T))) hI o_v0 (fun r T h0 h1 h2 h3 h4 => ⟨h0, h1, h2, h3, h4⟩))) (ky_X9_mark (b := false) (L := LWL) (by decide) (by decide) (fun _ => rfl) (mn_X9_mark (Q := fun r T => IV T ∧ Gr S T ∧ (FRI [(0, 3), (2, 0), (2, 1), (9, 9)] [] S T) ∧ K2 S T ∧ ((NFq 9 9 c9 v0 T))) hI o_v0 (fun r T h0 h1 h2 h3 h4 => ⟨h0, h1, h2, h3, h4⟩))) (fun r T a b => ⟨a.1, a.2, b.2⟩)) (fun r T a b => ⟨a.1, a.2, b.2⟩)) (tl_X9_mark J.2.2.2.1 e6 cd (mn_X9_mark (Q := fun r T => IV T ∧ Gr S T ∧ (FRI [(0, 3), (2, 0), (2, 1), (9, 9)] [] S T) ∧ K2 S T ∧ ((NFq 9 9 c9 v0 T))) hI o_v0 (fun r T h0 h1 h2 h3 h4 => ⟨h0, h1, h2, h3, h4⟩))) (fun r T a b => ⟨a.1, a.2, b.2⟩)) (mn_X9_mark (Q := fun r T => IV T ∧ Gr S T ∧ (FRI [(0, 3), (2, 0), (2, 1), (9, 9)] [] S T) ∧ K2 S T ∧ ((NFq 9 9 c9 v0 T))) hI o_v0 (fun r T h0 h1 h2 h3 h4 => ⟨h0, h1, h2, h3, h4⟩)) (fun r T h _ => hq r T h.1.1 h.1.2.1 h.1.2.2.1 h.1.2.2.2.1 h.1.2.2.2.2 h.2)
theorem mz_X9_mean {v0 : Nat} {v1 : Int32} {v2 : Int32} {v3 : Int32} {v4 : Int32} {v5 : Int32} {v6 : Int32} {Q : Int64 → HS → Prop} {S : HS} (hI : IV S) (o_v0 : ob S v0 9)  (hq : ∀ (r : Int64) (T : HS), IV T → Gr S T → FRI [(9, 9)] [] S T → K2 S T → (NFq 9 9 c9 v0 T) → (((K7 S T ∧ K8 S T) ∧ (K9 false LA S T ∧ K9 true LB S T)) ∧ (KJ LWJ S T ∧ K9 false LWL S T)) → Q r T) : P_X9_mean v0 v1 v2 v3 v4 v5 v6 Q S := cm_X9_mean (cm_X9_mean (Q3 := fun r T => (IV T ∧ Gr S T ∧ (FRI [(9, 9)] [] S T) ∧ K2 S T ∧ ((NFq 9 9 c9 v0 T))) ∧ ((K7 S T ∧ K8 S T) ∧ (K9 false LA S T ∧ K9 true LB S T)) ∧ (KJ LWJ S T ∧ K9 false LWL S T)) (cm_X9_mean (Q3 := fun r T => (IV T ∧ Gr S T ∧ (FRI [(9, 9)] [] S T) ∧ K2 S T ∧ ((NFq 9 9 c9 v0 T))) ∧ (K7 S T ∧ K8 S T) ∧ (K9 false LA S T ∧ K9 true LB S T)) (cm_X9_mean (Q3 := fun r T => (IV T ∧ Gr S T ∧ (FRI [(9, 9)] [] S T) ∧ K2 S T ∧ ((NFq 9 9 c9 v0 T))) ∧ K7 S T ∧ K8 S T) (kw_X9_mean (mn_X9_mean (Q := fun r T => IV T ∧ Gr S T ∧ (FRI [(9, 9)] [] S T) ∧ K2 S T ∧ ((NFq 9 9 c9 v0 T))) hI o_v0 (fun r T h0 h1 h2 h3 h4 => ⟨h0, h1, h2, h3, h4⟩))) (kx_X9_mean (mn_X9_mean (Q := fun r T => IV T ∧ Gr S T ∧ (FRI [(9, 9)] [] S T) ∧ K2 S T ∧ ((NFq 9 9 c9 v0 T))) hI o_v0 (fun r T h0 h1 h2 h3 h4 => ⟨h0, h1, h2, h3, h4⟩))) (fun r T a b => ⟨a.1, a.2, b.2⟩)) (cm_X9_mean (Q3 := fun r T => (IV T ∧ Gr S T ∧ (FRI [(9, 9)] [] S T) ∧ K2 S T ∧ ((NFq 9 9 c9 v0 T))) ∧ (K9 false LA S T ∧ K9 true LB S T)) (ky_X9_mean (b := false) (L := LA) (by decide) (by decide) (fun _ => rfl) (mn_X9_mean (Q := fun r T => IV T ∧ Gr S T ∧ (FRI [(9, 9)] [] S T) ∧ K2 S T ∧ ((NFq 9 9 c9 v0 T))) hI o_v0 (fun r T h0 h1 h2 h3 h4 => ⟨h0, h1, h2, h3, h4⟩))) (ky_X9_mean (b := true) (L := LB) (by decide) (by decide) (fun z => z.elim) (mn_X9_mean (Q := fun r T => IV T ∧ Gr S T ∧ (FRI [(9, 9)] [] S T) ∧ K2 S T ∧ ((NFq 9 9 c9 v0 T))) hI o_v0 (fun r T h0 h1 h2 h3 h4 => ⟨h0, h1, h2, h3, h4⟩))) (fun r T a b => ⟨a.1, a.2, b.2⟩)) (fun r T a b => ⟨a.1, a.2, b.2⟩)) (cm_X9_mean (Q3 := fun r T => (IV T ∧ Gr S T ∧ (FRI [(9, 9)] [] S T) ∧ K2 S T ∧ ((NFq 9 9 c9 v0 T))) ∧ (KJ LWJ S T ∧ K9 false LWL S T)) (kj_X9_mean (L := LWJ) (by decide) (by decide) (mn_X9_mean (Q := fun r T => IV T ∧ Gr S T ∧ (FRI [(9, 9)] [] S T) ∧ K2 S T ∧ ((NFq 9 9 c9 v0 T))) hI o_v0 (fun r T h0 h1 h2 h3 h4 => ⟨h0, h1, h2, h3, h4⟩))) (ky_X9_mean (b := false) (L := LWL) (by decide) (by decide) (fun _ => rfl) (mn_X9_mean (Q := fun r T => IV T ∧ Gr S T ∧ (FRI [(9, 9)] [] S T) ∧ K2 S T ∧ ((NFq 9 9 c9 v0 T))) hI o_v0 (fun r T h0 h1 h2 h3 h4 => ⟨h0, h1, h2, h3, h4⟩))) (fun r T a b => ⟨a.1, a.2, b.2⟩)) (fun r T a b => ⟨a.1, a.2, b.2⟩)) (mn_X9_mean (Q := fun r T => IV T ∧ Gr S T ∧ (FRI [(9, 9)] [] S T) ∧ K2 S T ∧ ((NFq 9 9 c9 v0 T))) hI o_v0 (fun r T h0 h1 h2 h3 h4 => ⟨h0, h1, h2, h3, h4⟩)) (fun r T h _ => hq r T h.1.1 h.1.2.1 h.1.2.2.1 h.1.2.2.2.1 h.1.2.2.2.2 h.2)
theorem mz_X9_minutes {v0 : Nat} {v1 : Int32} {v2 : Int32} {v3 : Int32} {Q : Int32 → HS → Prop} {S : HS} (hI : IV S) (o_v0 : ob S v0 9)  (hq : ∀ (r : Int32) (T : HS), IV T → Gr S T → FRI [(9, 9)] [] S T → K2 S T → (NFq 9 9 c9 v0 T) → (((K7 S T ∧ K8 S T) ∧ (K9 false LA S T ∧ K9 true LB S T)) ∧ (KJ LWJ S T ∧ K9 false LWL S T)) → Q r T) : P_X9_minutes v0 v1 v2 v3 Q S := cm_X9_minutes (cm_X9_minutes (Q3 := fun r T => (IV T ∧ Gr S T ∧ (FRI [(9, 9)] [] S T) ∧ K2 S T ∧ ((NFq 9 9 c9 v0 T))) ∧ ((K7 S T ∧ K8 S T) ∧ (K9 false LA S T ∧ K9 true LB S T)) ∧ (KJ LWJ S T ∧ K9 false LWL S T)) (cm_X9_minutes (Q3 := fun r T => (IV T ∧ Gr S T ∧ (FRI [(9, 9)] [] S T) ∧ K2 S T ∧ ((NFq 9 9 c9 v0 T))) ∧ (K7 S T ∧ K8 S T) ∧ (K9 false LA S T ∧ K9 true LB S T)) (cm_X9_minutes (Q3 := fun r T => (IV T ∧ Gr S T ∧ (FRI [(9, 9)] [] S T) ∧ K2 S T ∧ ((NFq 9 9 c9 v0 T))) ∧ K7 S T ∧ K8 S T) (kw_X9_minutes (mn_X9_minutes (Q := fun r T => IV T ∧ Gr S T ∧ (FRI [(9, 9)] [] S T) ∧ K2 S T ∧ ((NFq 9 9 c9 v0 T))) hI o_v0 (fun r T h0 h1 h2 h3 h4 => ⟨h0, h1, h2, h3, h4⟩))) (kx_X9_minutes (mn_X9_minutes (Q := fun r T => IV T ∧ Gr S T ∧ (FRI [(9, 9)] [] S T) ∧ K2 S T ∧ ((NFq 9 9 c9 v0 T))) hI o_v0 (fun r T h0 h1 h2 h3 h4 => ⟨h0, h1, h2, h3, h4⟩))) (fun r T a b => ⟨a.1, a.2, b.2⟩)) (cm_X9_minutes (Q3 := fun r T => (IV T ∧ Gr S T ∧ (FRI [(9, 9)] [] S T) ∧ K2 S T ∧ ((NFq 9 9 c9 v0 T))) ∧ (K9 false LA S T ∧ K9 true LB S T)) (ky_X9_minutes (b := false) (L := LA) (by decide) (by decide) (fun _ => rfl) (mn_X9_minutes (Q := fun r T => IV T ∧ Gr S T ∧ (FRI [(9, 9)] [] S T) ∧ K2 S T ∧ ((NFq 9 9 c9 v0 T))) hI o_v0 (fun r T h0 h1 h2 h3 h4 => ⟨h0, h1, h2, h3, h4⟩))) (ky_X9_minutes (b := true) (L := LB) (by decide) (by decide) (fun z => z.elim) (mn_X9_minutes (Q := fun r T => IV T ∧ Gr S T ∧ (FRI [(9, 9)] [] S T) ∧ K2 S T ∧ ((NFq 9 9 c9 v0 T))) hI o_v0 (fun r T h0 h1 h2 h3 h4 => ⟨h0, h1, h2, h3, h4⟩))) (fun r T a b => ⟨a.1, a.2, b.2⟩)) (fun r T a b => ⟨a.1, a.2, b.2⟩)) (cm_X9_minutes (Q3 := fun r T => (IV T ∧ Gr S T ∧ (FRI [(9, 9)] [] S T) ∧ K2 S T ∧ ((NFq 9 9 c9 v0 T))) ∧ (KJ LWJ S T ∧ K9 false LWL S T)) (kj_X9_minutes (L := LWJ) (by decide) (by decide) (mn_X9_minutes (Q := fun r T => IV T ∧ Gr S T ∧ (FRI [(9, 9)] [] S T) ∧ K2 S T ∧ ((NFq 9 9 c9 v0 T))) hI o_v0 (fun r T h0 h1 h2 h3 h4 => ⟨h0, h1, h2, h3, h4⟩))) (ky_X9_minutes (b := false) (L := LWL) (by decide) (by decide) (fun _ => rfl) (mn_X9_minutes (Q := fun r T => IV T ∧ Gr S T ∧ (FRI [(9, 9)] [] S T) ∧ K2 S T ∧ ((NFq 9 9 c9 v0 T))) hI o_v0 (fun r T h0 h1 h2 h3 h4 => ⟨h0, h1, h2, h3, h4⟩))) (fun r T a b => ⟨a.1, a.2, b.2⟩)) (fun r T a b => ⟨a.1, a.2, b.2⟩)) (mn_X9_minutes (Q := fun r T => IV T ∧ Gr S T ∧ (FRI [(9, 9)] [] S T) ∧ K2 S T ∧ ((NFq 9 9 c9 v0 T))) hI o_v0 (fun r T h0 h1 h2 h3 h4 => ⟨h0, h1, h2, h3, h4⟩)) (fun r T h _ => hq r T h.1.1 h.1.2.1 h.1.2.2.1 h.1.2.2.2.1 h.1.2.2.2.2 h.2)
theorem mt_X9_off {v0 : Nat} {v1 : Int32} {v2 : Int32} {v3 : Int32} {v4 : Int32} {Q : Int32 → HS → Prop} {S : HS} (hI : IV S) (o_v0 : ob S v0 9) {rr w1 w2 l9 p9 q9 : Nat} {A : AS} {G : GC} (J : CJ v0 rr w1 w2 S) (hc : Cnt w1 A S) (ct : CtB w1 A G S S) (ab : ABd A) (gb : GBd A G) (ge : GBe A G) (lg : LG v0 l9 p9 q9 S) (wd : WYd v0 A G S) (hq : ∀ (r : Int32) (T : HS), IV T → Gr S T → FRI [(7, 3), (7, 9), (7, 10), (7, 11), (7, 12), (7, 13), (9, 9)] [(7, 0), (7, 1), (7, 2), (7, 4), (7, 5), (7, 6), (7, 7), (7, 8)] S T → K2 S T → (NFq 9 9 c9 v0 T) → (((K7 S T ∧ K8 S T) ∧ (K9 false LA S T ∧ K9 true LB S T)) ∧ r = telloff A G v1 v2 v3 v4 ∧ WYd v0 A G T) → Q r T) : P_X9_off v0 v1 v2 v3 v4 Q S := cm_X9_off (cm_X9_off (Q3 := fun r T => (IV T ∧ Gr S T ∧ (FRI [(7, 3), (7, 9), (7, 10), (7, 11), (7, 12), (7, 13), (9, 9)] [(7, 0), (7, 1), (7, 2), (7, 4), (7, 5), (7, 6), (7, 7), (7, 8)] S T) ∧ K2 S T ∧ ((NFq 9 9 c9 v0 T))) ∧ ((K7 S T ∧ K8 S T) ∧ (K9 false LA S T ∧ K9 true LB S T)) ∧ r = telloff A G v1 v2 v3 v4 ∧ WYd v0 A G T) (cm_X9_off (Q3 := fun r T => (IV T ∧ Gr S T ∧ (FRI [(7, 3), (7, 9), (7, 10), (7, 11), (7, 12), (7, 13), (9, 9)] [(7, 0), (7, 1), (7, 2), (7, 4), (7, 5), (7, 6), (7, 7), (7, 8)] S T) ∧ K2 S T ∧ ((NFq 9 9 c9 v0 T))) ∧ (K7 S T ∧ K8 S T) ∧ (K9 false LA S T ∧ K9 true LB S T)) (cm_X9_off (Q3 := fun r T => (IV T ∧ Gr S T ∧ (FRI [(7, 3), (7, 9), (7, 10), (7, 11), (7, 12), (7, 13), (9, 9)] [(7, 0), (7, 1), (7, 2), (7, 4), (7, 5), (7, 6), (7, 7), (7, 8)] S T) ∧ K2 S T ∧ ((NFq 9 9 c9 v0 T))) ∧ K7 S T ∧ K8 S T) (kw_X9_off (mn_X9_off (Q := fun r T => IV T ∧ Gr S T ∧ (FRI [(7, 3), (7, 9), (7, 10), (7, 11), (7, 12), (7, 13), (9, 9)] [(7, 0), (7, 1), (7, 2), (7, 4), (7, 5), (7, 6), (7, 7), (7, 8)] S T) ∧ K2 S T ∧ ((NFq 9 9 c9 v0 T))) hI o_v0 (fun r T h0 h1 h2 h3 h4 => ⟨h0, h1, h2, h3, h4⟩))) (kx_X9_off (mn_X9_off (Q := fun r T => IV T ∧ Gr S T ∧ (FRI [(7, 3), (7, 9), (7, 10), (7, 11), (7, 12), (7, 13), (9, 9)] [(7, 0), (7, 1), (7, 2), (7, 4), (7, 5), (7, 6), (7, 7), (7, 8)] S T) ∧ K2 S T ∧ ((NFq 9 9 c9 v0 T))) hI o_v0 (fun r T h0 h1 h2 h3 h4 => ⟨h0, h1, h2, h3, h4⟩))) (fun r T a b => ⟨a.1, a.2, b.2⟩)) (cm_X9_off (Q3 := fun r T => (IV T ∧ Gr S T ∧ (FRI [(7, 3), (7, 9), (7, 10), (7, 11), (7, 12), (7, 13), (9, 9)] [(7, 0), (7, 1), (7, 2), (7, 4), (7, 5), (7, 6), (7, 7), (7, 8)] S T) ∧ K2 S T ∧ ((NFq 9 9 c9 v0 T))) ∧ (K9 false LA S T ∧ K9 true LB S T)) (ky_X9_off (b := false) (L := LA) (by decide) (by decide) (fun _ => rfl) (mn_X9_off (Q := fun r T => IV T ∧ Gr S T ∧ (FRI [(7, 3), (7, 9), (7, 10), (7, 11), (7, 12), (7, 13), (9, 9)] [(7, 0), (7, 1), (7, 2), (7, 4), (7, 5), (7, 6), (7, 7), (7, 8)] S T) ∧ K2 S T ∧ ((NFq 9 9 c9 v0 T))) hI o_v0 (fun r T h0 h1 h2 h3 h4 => ⟨h0, h1, h2, h3, h4⟩))) (ky_X9_off (b := true) (L := LB) (by decide) (by decide) (fun z => z.elim) (mn_X9_off (Q := fun r T => IV T ∧ Gr S T ∧ (FRI [(7, 3), (7, 9), (7, 10), (7, 11), (7, 12), (7, 13), (9, 9)] [(7, 0), (7, 1), (7, 2), (7, 4), (7, 5), (7, 6), (7, 7), (7, 8)] S T) ∧ K2 S T ∧ ((NFq 9 9 c9 v0 T))) hI o_v0 (fun r T h0 h1 h2 h3 h4 => ⟨h0, h1, h2, h3, h4⟩))) (fun r T a b => ⟨a.1, a.2, b.2⟩)) (fun r T a b => ⟨a.1, a.2, b.2⟩)) (tl_X9_off hI o_v0 ab gb ge J.1 (wt_of hI J hc ct ab) lg wd (mn_X9_off (Q := fun r T => IV T ∧ Gr S T ∧ (FRI [(7, 3), (7, 9), (7, 10), (7, 11), (7, 12), (7, 13), (9, 9)] [(7, 0), (7, 1), (7, 2), (7, 4), (7, 5), (7, 6), (7, 7), (7, 8)] S T) ∧ K2 S T ∧ ((NFq 9 9 c9 v0 T))) hI o_v0 (fun r T h0 h1 h2 h3 h4 => ⟨h0, h1, h2, h3, h4⟩))) (fun r T a b => ⟨a.1, a.2, b.2⟩)) (mn_X9_off (Q := fun r T => IV T ∧ Gr S T ∧ (FRI [(7, 3), (7, 9), (7, 10), (7, 11), (7, 12), (7, 13), (9, 9)] [(7, 0), (7, 1), (7, 2), (7, 4), (7, 5), (7, 6), (7, 7), (7, 8)] S T) ∧ K2 S T ∧ ((NFq 9 9 c9 v0 T))) hI o_v0 (fun r T h0 h1 h2 h3 h4 => ⟨h0, h1, h2, h3, h4⟩)) (fun r T h _ => hq r T h.1.1 h.1.2.1 h.1.2.2.1 h.1.2.2.2.1 h.1.2.2.2.2 h.2)
theorem mz_X9_road {v0 : Nat} {v1 : Int32} {v2 : Int32} {Q : Int32 → HS → Prop} {S : HS} (hI : IV S) (o_v0 : ob S v0 9)  (hq : ∀ (r : Int32) (T : HS), IV T → Gr S T → FRI [(9, 9)] [] S T → K2 S T → (NFq 9 9 c9 v0 T) → (((K7 S T ∧ K8 S T) ∧ (K9 false LA S T ∧ K9 true LB S T)) ∧ (KJ LWJ S T ∧ K9 false LWL S T)) → Q r T) : P_X9_road v0 v1 v2 Q S := cm_X9_road (cm_X9_road (Q3 := fun r T => (IV T ∧ Gr S T ∧ (FRI [(9, 9)] [] S T) ∧ K2 S T ∧ ((NFq 9 9 c9 v0 T))) ∧ ((K7 S T ∧ K8 S T) ∧ (K9 false LA S T ∧ K9 true LB S T)) ∧ (KJ LWJ S T ∧ K9 false LWL S T)) (cm_X9_road (Q3 := fun r T => (IV T ∧ Gr S T ∧ (FRI [(9, 9)] [] S T) ∧ K2 S T ∧ ((NFq 9 9 c9 v0 T))) ∧ (K7 S T ∧ K8 S T) ∧ (K9 false LA S T ∧ K9 true LB S T)) (cm_X9_road (Q3 := fun r T => (IV T ∧ Gr S T ∧ (FRI [(9, 9)] [] S T) ∧ K2 S T ∧ ((NFq 9 9 c9 v0 T))) ∧ K7 S T ∧ K8 S T) (kw_X9_road (mn_X9_road (Q := fun r T => IV T ∧ Gr S T ∧ (FRI [(9, 9)] [] S T) ∧ K2 S T ∧ ((NFq 9 9 c9 v0 T))) hI o_v0 (fun r T h0 h1 h2 h3 h4 => ⟨h0, h1, h2, h3, h4⟩))) (kx_X9_road (mn_X9_road (Q := fun r T => IV T ∧ Gr S T ∧ (FRI [(9, 9)] [] S T) ∧ K2 S T ∧ ((NFq 9 9 c9 v0 T))) hI o_v0 (fun r T h0 h1 h2 h3 h4 => ⟨h0, h1, h2, h3, h4⟩))) (fun r T a b => ⟨a.1, a.2, b.2⟩)) (cm_X9_road (Q3 := fun r T => (IV T ∧ Gr S T ∧ (FRI [(9, 9)] [] S T) ∧ K2 S T ∧ ((NFq 9 9 c9 v0 T))) ∧ (K9 false LA S T ∧ K9 true LB S T)) (ky_X9_road (b := false) (L := LA) (by decide) (by decide) (fun _ => rfl) (mn_X9_road (Q := fun r T => IV T ∧ Gr S T ∧ (FRI [(9, 9)] [] S T) ∧ K2 S T ∧ ((NFq 9 9 c9 v0 T))) hI o_v0 (fun r T h0 h1 h2 h3 h4 => ⟨h0, h1, h2, h3, h4⟩))) (ky_X9_road (b := true) (L := LB) (by decide) (by decide) (fun z => z.elim) (mn_X9_road (Q := fun r T => IV T ∧ Gr S T ∧ (FRI [(9, 9)] [] S T) ∧ K2 S T ∧ ((NFq 9 9 c9 v0 T))) hI o_v0 (fun r T h0 h1 h2 h3 h4 => ⟨h0, h1, h2, h3, h4⟩))) (fun r T a b => ⟨a.1, a.2, b.2⟩)) (fun r T a b => ⟨a.1, a.2, b.2⟩)) (cm_X9_road (Q3 := fun r T => (IV T ∧ Gr S T ∧ (FRI [(9, 9)] [] S T) ∧ K2 S T ∧ ((NFq 9 9 c9 v0 T))) ∧ (KJ LWJ S T ∧ K9 false LWL S T)) (kj_X9_road (L := LWJ) (by decide) (by decide) (mn_X9_road (Q := fun r T => IV T ∧ Gr S T ∧ (FRI [(9, 9)] [] S T) ∧ K2 S T ∧ ((NFq 9 9 c9 v0 T))) hI o_v0 (fun r T h0 h1 h2 h3 h4 => ⟨h0, h1, h2, h3, h4⟩))) (ky_X9_road (b := false) (L := LWL) (by decide) (by decide) (fun _ => rfl) (mn_X9_road (Q := fun r T => IV T ∧ Gr S T ∧ (FRI [(9, 9)] [] S T) ∧ K2 S T ∧ ((NFq 9 9 c9 v0 T))) hI o_v0 (fun r T h0 h1 h2 h3 h4 => ⟨h0, h1, h2, h3, h4⟩))) (fun r T a b => ⟨a.1, a.2, b.2⟩)) (fun r T a b => ⟨a.1, a.2, b.2⟩)) (mn_X9_road (Q := fun r T => IV T ∧ Gr S T ∧ (FRI [(9, 9)] [] S T) ∧ K2 S T ∧ ((NFq 9 9 c9 v0 T))) hI o_v0 (fun r T h0 h1 h2 h3 h4 => ⟨h0, h1, h2, h3, h4⟩)) (fun r T h _ => hq r T h.1.1 h.1.2.1 h.1.2.2.1 h.1.2.2.2.1 h.1.2.2.2.2 h.2)
theorem mz_X9_round {v0 : Nat} {v1 : Int32} {v2 : Int32} {v3 : Int32} {v4 : Int32} {Q : Int64 → HS → Prop} {S : HS} (hI : IV S) (o_v0 : ob S v0 9)  (hq : ∀ (r : Int64) (T : HS), IV T → Gr S T → FRI [(9, 9)] [] S T → K2 S T → (NFq 9 9 c9 v0 T) → (((K7 S T ∧ K8 S T) ∧ (K9 false LA S T ∧ K9 true LB S T)) ∧ (KJ LWJ S T ∧ K9 false LWL S T)) → Q r T) : P_X9_round v0 v1 v2 v3 v4 Q S := cm_X9_round (cm_X9_round (Q3 := fun r T => (IV T ∧ Gr S T ∧ (FRI [(9, 9)] [] S T) ∧ K2 S T ∧ ((NFq 9 9 c9 v0 T))) ∧ ((K7 S T ∧ K8 S T) ∧ (K9 false LA S T ∧ K9 true LB S T)) ∧ (KJ LWJ S T ∧ K9 false LWL S T)) (cm_X9_round (Q3 := fun r T => (IV T ∧ Gr S T ∧ (FRI [(9, 9)] [] S T) ∧ K2 S T ∧ ((NFq 9 9 c9 v0 T))) ∧ (K7 S T ∧ K8 S T) ∧ (K9 false LA S T ∧ K9 true LB S T)) (cm_X9_round (Q3 := fun r T => (IV T ∧ Gr S T ∧ (FRI [(9, 9)] [] S T) ∧ K2 S T ∧ ((NFq 9 9 c9 v0 T))) ∧ K7 S T ∧ K8 S T) (kw_X9_round (mn_X9_round (Q := fun r T => IV T ∧ Gr S T ∧ (FRI [(9, 9)] [] S T) ∧ K2 S T ∧ ((NFq 9 9 c9 v0 T))) hI o_v0 (fun r T h0 h1 h2 h3 h4 => ⟨h0, h1, h2, h3, h4⟩))) (kx_X9_round (mn_X9_round (Q := fun r T => IV T ∧ Gr S T ∧ (FRI [(9, 9)] [] S T) ∧ K2 S T ∧ ((NFq 9 9 c9 v0 T))) hI o_v0 (fun r T h0 h1 h2 h3 h4 => ⟨h0, h1, h2, h3, h4⟩))) (fun r T a b => ⟨a.1, a.2, b.2⟩)) (cm_X9_round (Q3 := fun r T => (IV T ∧ Gr S T ∧ (FRI [(9, 9)] [] S T) ∧ K2 S T ∧ ((NFq 9 9 c9 v0 T))) ∧ (K9 false LA S T ∧ K9 true LB S T)) (ky_X9_round (b := false) (L := LA) (by decide) (by decide) (fun _ => rfl) (mn_X9_round (Q := fun r T => IV T ∧ Gr S T ∧ (FRI [(9, 9)] [] S T) ∧ K2 S T ∧ ((NFq 9 9 c9 v0 T))) hI o_v0 (fun r T h0 h1 h2 h3 h4 => ⟨h0, h1, h2, h3, h4⟩))) (ky_X9_round (b := true) (L := LB) (by decide) (by decide) (fun z => z.elim) (mn_X9_round (Q := fun r T => IV T ∧ Gr S T ∧ (FRI [(9, 9)] [] S T) ∧ K2 S T ∧ ((NFq 9 9 c9 v0 T))) hI o_v0 (fun r T h0 h1 h2 h3 h4 => ⟨h0, h1, h2, h3, h4⟩))) (fun r T a b => ⟨a.1, a.2, b.2⟩)) (fun r T a b => ⟨a.1, a.2, b.2⟩)) (cm_X9_round (Q3 := fun r T => (IV T ∧ Gr S T ∧ (FRI [(9, 9)] [] S T) ∧ K2 S T ∧ ((NFq 9 9 c9 v0 T))) ∧ (KJ LWJ S T ∧ K9 false LWL S T)) (kj_X9_round (L := LWJ) (by decide) (by decide) (mn_X9_round (Q := fun r T => IV T ∧ Gr S T ∧ (FRI [(9, 9)] [] S T) ∧ K2 S T ∧ ((NFq 9 9 c9 v0 T))) hI o_v0 (fun r T h0 h1 h2 h3 h4 => ⟨h0, h1, h2, h3, h4⟩))) (ky_X9_round (b := false) (L := LWL) (by decide) (by decide) (fun _ => rfl) (mn_X9_round (Q := fun r T => IV T ∧ Gr S T ∧ (FRI [(9, 9)] [] S T) ∧ K2 S T ∧ ((NFq 9 9 c9 v0 T))) hI o_v0 (fun r T h0 h1 h2 h3 h4 => ⟨h0, h1, h2, h3, h4⟩))) (fun r T a b => ⟨a.1, a.2, b.2⟩)) (fun r T a b => ⟨a.1, a.2, b.2⟩)) (mn_X9_round (Q := fun r T => IV T ∧ Gr S T ∧ (FRI [(9, 9)] [] S T) ∧ K2 S T ∧ ((NFq 9 9 c9 v0 T))) hI o_v0 (fun r T h0 h1 h2 h3 h4 => ⟨h0, h1, h2, h3, h4⟩)) (fun r T h _ => hq r T h.1.1 h.1.2.1 h.1.2.2.1 h.1.2.2.2.1 h.1.2.2.2.2 h.2)
theorem mz_X9_saves {v0 : Nat} {v1 : Int32} {v2 : Int32} {v3 : Int32} {v4 : Int32} {v5 : Int32} {Q : Int64 → HS → Prop} {S : HS} (hI : IV S) (o_v0 : ob S v0 9)  (hq : ∀ (r : Int64) (T : HS), IV T → Gr S T → FRI [(9, 9)] [] S T → K2 S T → (NFq 9 9 c9 v0 T) → (((K7 S T ∧ K8 S T) ∧ (K9 false LA S T ∧ K9 true LB S T)) ∧ (KJ LWJ S T ∧ K9 false LWL S T)) → Q r T) : P_X9_saves v0 v1 v2 v3 v4 v5 Q S := cm_X9_saves (cm_X9_saves (Q3 := fun r T => (IV T ∧ Gr S T ∧ (FRI [(9, 9)] [] S T) ∧ K2 S T ∧ ((NFq 9 9 c9 v0 T))) ∧ ((K7 S T ∧ K8 S T) ∧ (K9 false LA S T ∧ K9 true LB S T)) ∧ (KJ LWJ S T ∧ K9 false LWL S T)) (cm_X9_saves (Q3 := fun r T => (IV T ∧ Gr S T ∧ (FRI [(9, 9)] [] S T) ∧ K2 S T ∧ ((NFq 9 9 c9 v0 T))) ∧ (K7 S T ∧ K8 S T) ∧ (K9 false LA S T ∧ K9 true LB S T)) (cm_X9_saves (Q3 := fun r T => (IV T ∧ Gr S T ∧ (FRI [(9, 9)] [] S T) ∧ K2 S T ∧ ((NFq 9 9 c9 v0 T))) ∧ K7 S T ∧ K8 S T) (kw_X9_saves (mn_X9_saves (Q := fun r T => IV T ∧ Gr S T ∧ (FRI [(9, 9)] [] S T) ∧ K2 S T ∧ ((NFq 9 9 c9 v0 T))) hI o_v0 (fun r T h0 h1 h2 h3 h4 => ⟨h0, h1, h2, h3, h4⟩))) (kx_X9_saves (mn_X9_saves (Q := fun r T => IV T ∧ Gr S T ∧ (FRI [(9, 9)] [] S T) ∧ K2 S T ∧ ((NFq 9 9 c9 v0 T))) hI o_v0 (fun r T h0 h1 h2 h3 h4 => ⟨h0, h1, h2, h3, h4⟩))) (fun r T a b => ⟨a.1, a.2, b.2⟩)) (cm_X9_saves (Q3 := fun r T => (IV T ∧ Gr S T ∧ (FRI [(9, 9)] [] S T) ∧ K2 S T ∧ ((NFq 9 9 c9 v0 T))) ∧ (K9 false LA S T ∧ K9 true LB S T)) (ky_X9_saves (b := false) (L := LA) (by decide) (by decide) (fun _ => rfl) (mn_X9_saves (Q := fun r T => IV T ∧ Gr S T ∧ (FRI [(9, 9)] [] S T) ∧ K2 S T ∧ ((NFq 9 9 c9 v0 T))) hI o_v0 (fun r T h0 h1 h2 h3 h4 => ⟨h0, h1, h2, h3, h4⟩))) (ky_X9_saves (b := true) (L := LB) (by decide) (by decide) (fun z => z.elim) (mn_X9_saves (Q := fun r T => IV T ∧ Gr S T ∧ (FRI [(9, 9)] [] S T) ∧ K2 S T ∧ ((NFq 9 9 c9 v0 T))) hI o_v0 (fun r T h0 h1 h2 h3 h4 => ⟨h0, h1, h2, h3, h4⟩))) (fun r T a b => ⟨a.1, a.2, b.2⟩)) (fun r T a b => ⟨a.1, a.2, b.2⟩)) (cm_X9_saves (Q3 := fun r T => (IV T ∧ Gr S T ∧ (FRI [(9, 9)] [] S T) ∧ K2 S T ∧ ((NFq 9 9 c9 v0 T))) ∧ (KJ LWJ S T ∧ K9 false LWL S T)) (kj_X9_saves (L := LWJ) (by decide) (by decide) (mn_X9_saves (Q := fun r T => IV T ∧ Gr S T ∧ (FRI [(9, 9)] [] S T) ∧ K2 S T ∧ ((NFq 9 9 c9 v0 T))) hI o_v0 (fun r T h0 h1 h2 h3 h4 => ⟨h0, h1, h2, h3, h4⟩))) (ky_X9_saves (b := false) (L := LWL) (by decide) (by decide) (fun _ => rfl) (mn_X9_saves (Q := fun r T => IV T ∧ Gr S T ∧ (FRI [(9, 9)] [] S T) ∧ K2 S T ∧ ((NFq 9 9 c9 v0 T))) hI o_v0 (fun r T h0 h1 h2 h3 h4 => ⟨h0, h1, h2, h3, h4⟩))) (fun r T a b => ⟨a.1, a.2, b.2⟩)) (fun r T a b => ⟨a.1, a.2, b.2⟩)) (mn_X9_saves (Q := fun r T => IV T ∧ Gr S T ∧ (FRI [(9, 9)] [] S T) ∧ K2 S T ∧ ((NFq 9 9 c9 v0 T))) hI o_v0 (fun r T h0 h1 h2 h3 h4 => ⟨h0, h1, h2, h3, h4⟩)) (fun r T h _ => hq r T h.1.1 h.1.2.1 h.1.2.2.1 h.1.2.2.2.1 h.1.2.2.2.2 h.2)
theorem mz_X9_soaked {v0 : Nat} {Q : Int32 → HS → Prop} {S : HS} (hI : IV S) (o_v0 : ob S v0 9)  (hq : ∀ (r : Int32) (T : HS), IV T → Gr S T → FRI [(9, 9)] [] S T → K2 S T → (NFq 9 9 c9 v0 T) → (((K7 S T ∧ K8 S T) ∧ (K9 false LA S T ∧ K9 true LB S T)) ∧ (KJ LWJ S T ∧ K9 false LWL S T)) → Q r T) : P_X9_soaked v0 Q S := cm_X9_soaked (cm_X9_soaked (Q3 := fun r T => (IV T ∧ Gr S T ∧ (FRI [(9, 9)] [] S T) ∧ K2 S T ∧ ((NFq 9 9 c9 v0 T))) ∧ ((K7 S T ∧ K8 S T) ∧ (K9 false LA S T ∧ K9 true LB S T)) ∧ (KJ LWJ S T ∧ K9 false LWL S T)) (cm_X9_soaked (Q3 := fun r T => (IV T ∧ Gr S T ∧ (FRI [(9, 9)] [] S T) ∧ K2 S T ∧ ((NFq 9 9 c9 v0 T))) ∧ (K7 S T ∧ K8 S T) ∧ (K9 false LA S T ∧ K9 true LB S T)) (cm_X9_soaked (Q3 := fun r T => (IV T ∧ Gr S T ∧ (FRI [(9, 9)] [] S T) ∧ K2 S T ∧ ((NFq 9 9 c9 v0 T))) ∧ K7 S T ∧ K8 S T) (kw_X9_soaked (mn_X9_soaked (Q := fun r T => IV T ∧ Gr S T ∧ (FRI [(9, 9)] [] S T) ∧ K2 S T ∧ ((NFq 9 9 c9 v0 T))) hI o_v0 (fun r T h0 h1 h2 h3 h4 => ⟨h0, h1, h2, h3, h4⟩))) (kx_X9_soaked (mn_X9_soaked (Q := fun r T => IV T ∧ Gr S T ∧ (FRI [(9, 9)] [] S T) ∧ K2 S T ∧ ((NFq 9 9 c9 v0 T))) hI o_v0 (fun r T h0 h1 h2 h3 h4 => ⟨h0, h1, h2, h3, h4⟩))) (fun r T a b => ⟨a.1, a.2, b.2⟩)) (cm_X9_soaked (Q3 := fun r T => (IV T ∧ Gr S T ∧ (FRI [(9, 9)] [] S T) ∧ K2 S T ∧ ((NFq 9 9 c9 v0 T))) ∧ (K9 false LA S T ∧ K9 true LB S T)) (ky_X9_soaked (b := false) (L := LA) (by decide) (by decide) (fun _ => rfl) (mn_X9_soaked (Q := fun r T => IV T ∧ Gr S T ∧ (FRI [(9, 9)] [] S T) ∧ K2 S T ∧ ((NFq 9 9 c9 v0 T))) hI o_v0 (fun r T h0 h1 h2 h3 h4 => ⟨h0, h1, h2, h3, h4⟩))) (ky_X9_soaked (b := true) (L := LB) (by decide) (by decide) (fun z => z.elim) (mn_X9_soaked (Q := fun r T => IV T ∧ Gr S T ∧ (FRI [(9, 9)] [] S T) ∧ K2 S T ∧ ((NFq 9 9 c9 v0 T))) hI o_v0 (fun r T h0 h1 h2 h3 h4 => ⟨h0, h1, h2, h3, h4⟩))) (fun r T a b => ⟨a.1, a.2, b.2⟩)) (fun r T a b => ⟨a.1, a.2, b.2⟩)) (cm_X9_soaked (Q3 := fun r T => (IV T ∧ Gr S T ∧ (FRI [(9, 9)] [] S T) ∧ K2 S T ∧ ((NFq 9 9 c9 v0 T))) ∧ (KJ LWJ S T ∧ K9 false LWL S T)) (kj_X9_soaked (L := LWJ) (by decide) (by decide) (mn_X9_soaked (Q := fun r T => IV T ∧ Gr S T ∧ (FRI [(9, 9)] [] S T) ∧ K2 S T ∧ ((NFq 9 9 c9 v0 T))) hI o_v0 (fun r T h0 h1 h2 h3 h4 => ⟨h0, h1, h2, h3, h4⟩))) (ky_X9_soaked (b := false) (L := LWL) (by decide) (by decide) (fun _ => rfl) (mn_X9_soaked (Q := fun r T => IV T ∧ Gr S T ∧ (FRI [(9, 9)] [] S T) ∧ K2 S T ∧ ((NFq 9 9 c9 v0 T))) hI o_v0 (fun r T h0 h1 h2 h3 h4 => ⟨h0, h1, h2, h3, h4⟩))) (fun r T a b => ⟨a.1, a.2, b.2⟩)) (fun r T a b => ⟨a.1, a.2, b.2⟩)) (mn_X9_soaked (Q := fun r T => IV T ∧ Gr S T ∧ (FRI [(9, 9)] [] S T) ∧ K2 S T ∧ ((NFq 9 9 c9 v0 T))) hI o_v0 (fun r T h0 h1 h2 h3 h4 => ⟨h0, h1, h2, h3, h4⟩)) (fun r T h _ => hq r T h.1.1 h.1.2.1 h.1.2.2.1 h.1.2.2.2.1 h.1.2.2.2.2 h.2)
theorem mt_X9_stay {v0 : Nat} {v1 : Int32} {Q : Int32 → HS → Prop} {S : HS} (hI : IV S) (o_v0 : ob S v0 9) {rr w1 w2 l9 p9 q9 : Nat} {A : AS} {G : GC} (J : CJ v0 rr w1 w2 S) (hc : Cnt w1 A S) (ct : CtB w1 A G S S) (ab : ABd A) (gb : GBd A G) (lg : LG v0 l9 p9 q9 S) {dy : Nat} {D : DY} (e6 : fR S v0 6 = some dy) (cd : CDd dy D S) (db : DBd A D) (hq : ∀ (r : Int32) (T : HS), IV T → Gr S T → FRI [(0, 2), (2, 0), (2, 1), (9, 9)] [] S T → bl r → K2 S T → (NFq 9 9 c9 v0 T) → ((((K7 S T ∧ K8 S T) ∧ K9 false LA S T) ∧ (KJ LWJ S T ∧ K9 false LWL S T)) ∧ ans (stC A G D v1) r ∧ CDd dy (nxstay A G D v1) T) → Q r T) : P_X9_stay v0 v1 Q S := cm_X9_stay (cm_X9_stay (Q3 := fun r T => (IV T ∧ Gr S T ∧ (FRI [(0, 2), (2, 0), (2, 1), (9, 9)] [] S T) ∧ bl r ∧ K2 S T ∧ ((NFq 9 9 c9 v0 T))) ∧ (((K7 S T ∧ K8 S T) ∧ K9 false LA S T) ∧ (KJ LWJ S T ∧ K9 false LWL S T)) ∧ ans (stC A G D v1) r ∧ CDd dy (nxstay A G D v1) T) (cm_X9_stay (Q3 := fun r T => (IV T ∧ Gr S T ∧ (FRI [(0, 2), (2, 0), (2, 1), (9, 9)] [] S T) ∧ bl r ∧ K2 S T ∧ ((NFq 9 9 c9 v0 T))) ∧ ((K7 S T ∧ K8 S T) ∧ K9 false LA S T) ∧ (KJ LWJ S T ∧ K9 false LWL S T)) (cm_X9_stay (Q3 := fun r T => (IV T ∧ Gr S T ∧ (FRI [(0, 2), (2, 0), (2, 1), (9, 9)] [] S T) ∧ bl r ∧ K2 S T ∧ ((NFq 9 9 c9 v0 T))) ∧ (K7 S T ∧ K8 S T) ∧ K9 false LA S T) (cm_X9_stay (Q3 := fun r T => (IV T ∧ Gr S T ∧ (FRI [(0, 2), (2, 0), (2, 1), (9, 9)] [] S T) ∧ bl r ∧ K2 S T ∧ ((NFq 9 9 c9 v0 T))) ∧ K7 S T ∧ K8 S T) (kw_X9_stay (mn_X9_stay (Q := fun r T => IV T ∧ Gr S T ∧ (FRI [(0, 2), (2, 0), (2, 1), (9, 9)] [] S T) ∧ bl r ∧ K2 S T ∧ ((NFq 9 9 c9 v0 T))) hI o_v0 (fun r T h0 h1 h2 h3 h4 h5 => ⟨h0, h1, h2, h3, h4, h5⟩))) (kx_X9_stay (mn_X9_stay (Q := fun r T => IV T ∧ Gr S T ∧ (FRI [(0, 2), (2, 0), (2, 1), (9, 9)] [] S T) ∧ bl r ∧ K2 S T ∧ ((NFq 9 9 c9 v0 T))) hI o_v0 (fun r T h0 h1 h2 h3 h4 h5 => ⟨h0, h1, h2, h3, h4, h5⟩))) (fun r T a b => ⟨a.1, a.2, b.2⟩)) (ky_X9_stay (b := false) (L := LA) (by decide) (by decide) (fun _ => rfl) (mn_X9_stay (Q := fun r T => IV T ∧ Gr S T ∧ (FRI [(0, 2), (2, 0), (2, 1), (9, 9)] [] S T) ∧ bl r ∧ K2 S T ∧ ((NFq 9 9 c9 v0 T))) hI o_v0 (fun r T h0 h1 h2 h3 h4 h5 => ⟨h0, h1, h2, h3, h4, h5⟩))) (fun r T a b => ⟨a.1, a.2, b.2⟩)) (cm_X9_stay (Q3 := fun r T => (IV T ∧ Gr S T ∧ (FRI [(0, 2), (2, 0), (2, 1), (9, 9)] [] S T) ∧ bl r ∧ K2 S T ∧ ((NFq 9 9 c9 v0 T))) ∧ (KJ LWJ S T ∧ K9 false LWL S T)) (kj_X9_stay (L := LWJ) (by decide) (by decide) (mn_X9_stay (Q := fun r T => IV T ∧ Gr S T ∧ (FRI [(0, 2), (2, 0), (2, 1), (9, 9)] [] S T) ∧ bl r ∧ K2 S T ∧ ((NFq 9 9 c9 v0 T))) hI o_v0 (fun r T h0 h1 h2 h3 h4 h5 => ⟨h0, h1, h2, h3, h4, h5⟩))) (ky_X9_stay (b := false) (L := LWL) (by decide) (by decide) (fun _ => rfl) (mn_X9_stay (Q := fun r T => IV T ∧ Gr S T ∧ (FRI [(0, 2), (2, 0), (2, 1), (9, 9)] [] S T) ∧ bl r ∧ K2 S T ∧ ((NFq 9 9 c9 v0 T))) hI o_v0 (fun r T h0 h1 h2 h3 h4 h5 => ⟨h0, h1, h2, h3, h4, h5⟩))) (fun r T a b => ⟨a.1, a.2, b.2⟩)) (fun r T a b => ⟨a.1, a.2, b.2⟩)) (tl_X9_stay hI J hc ct ab e6 cd db (mn_X9_stay (Q := fun r T => IV T ∧ Gr S T ∧ (FRI [(0, 2), (2, 0), (2, 1), (9, 9)] [] S T) ∧ bl r ∧ K2 S T ∧ ((NFq 9 9 c9 v0 T))) hI o_v0 (fun r T h0 h1 h2 h3 h4 h5 => ⟨h0, h1, h2, h3, h4, h5⟩))) (fun r T a b => ⟨a.1, a.2, b.2⟩)) (mn_X9_stay (Q := fun r T => IV T ∧ Gr S T ∧ (FRI [(0, 2), (2, 0), (2, 1), (9, 9)] [] S T) ∧ bl r ∧ K2 S T ∧ ((NFq 9 9 c9 v0 T))) hI o_v0 (fun r T h0 h1 h2 h3 h4 h5 => ⟨h0, h1, h2, h3, h4, h5⟩)) (fun r T h _ => hq r T h.1.1 h.1.2.1 h.1.2.2.1 h.1.2.2.2.1 h.1.2.2.2.2.1 h.1.2.2.2.2.2 h.2)
theorem mt_X9_step {v0 : Nat} {v1 : Int32} {v2 : Int32} {v3 : Int32} {v4 : Int32} {v5 : Int32} {v6 : Int32} {Q : Int32 → HS → Prop} {S : HS} (hI : IV S) (o_v0 : ob S v0 9) {rr w1 w2 l9 p9 q9 : Nat} {A : AS} {G : GC} (J : CJ v0 rr w1 w2 S) (hc : Cnt w1 A S) (ct : CtB w1 A G S S) (ab : ABd A) (gb : GBd A G) (ge : GBe A G) (lg : LG v0 l9 p9 q9 S) (wd : WYd v0 A G S) (hq : ∀ (r : Int32) (T : HS), IV T → Gr S T → FRI [(7, 3), (7, 9), (7, 10), (7, 11), (7, 12), (7, 13), (9, 9)] [(7, 0), (7, 1), (7, 2), (7, 4), (7, 5), (7, 6), (7, 7), (7, 8)] S T → K2 S T → (NFq 9 9 c9 v0 T) → (((K7 S T ∧ K8 S T) ∧ (K9 false LA S T ∧ K9 true LB S T)) ∧ r = tellstep A G v1 v2 v3 v4 v5 v6 ∧ WYd v0 A G T) → Q r T) : P_X9_step v0 v1 v2 v3 v4 v5 v6 Q S := cm_X9_step (cm_X9_step (Q3 := fun r T => (IV T ∧ Gr S T ∧ (FRI [(7, 3), (7, 9), (7, 10), (7, 11), (7, 12), (7, 13), (9, 9)] [(7, 0), (7, 1), (7, 2), (7, 4), (7, 5), (7, 6), (7, 7), (7, 8)] S T) ∧ K2 S T ∧ ((NFq 9 9 c9 v0 T))) ∧ ((K7 S T ∧ K8 S T) ∧ (K9 false LA S T ∧ K9 true LB S T)) ∧ r = tellstep A G v1 v2 v3 v4 v5 v6 ∧ WYd v0 A G T) (cm_X9_step (Q3 := fun r T => (IV T ∧ Gr S T ∧ (FRI [(7, 3), (7, 9), (7, 10), (7, 11), (7, 12), (7, 13), (9, 9)] [(7, 0), (7, 1), (7, 2), (7, 4), (7, 5), (7, 6), (7, 7), (7, 8)] S T) ∧ K2 S T ∧ ((NFq 9 9 c9 v0 T))) ∧ (K7 S T ∧ K8 S T) ∧ (K9 false LA S T ∧ K9 true LB S T)) (cm_X9_step (Q3 := fun r T => (IV T ∧ Gr S T ∧ (FRI [(7, 3), (7, 9), (7, 10), (7, 11), (7, 12), (7, 13), (9, 9)] [(7, 0), (7, 1), (7, 2), (7, 4), (7, 5), (7, 6), (7, 7), (7, 8)] S T) ∧ K2 S T ∧ ((NFq 9 9 c9 v0 T))) ∧ K7 S T ∧ K8 S T) (kw_X9_step (mn_X9_step (Q := fun r T => IV T ∧ Gr S T ∧ (FRI [(7, 3), (7, 9), (7, 10), (7, 11), (7, 12), (7, 13), (9, 9)] [(7, 0), (7, 1), (7, 2), (7, 4), (7, 5), (7, 6), (7, 7), (7, 8)] S T) ∧ K2 S T ∧ ((NFq 9 9 c9 v0 T))) hI o_v0 (fun r T h0 h1 h2 h3 h4 => ⟨h0, h1, h2, h3, h4⟩))) (kx_X9_step (mn_X9_step (Q := fun r T => IV T ∧ Gr S T ∧ (FRI [(7, 3), (7, 9), (7, 10), (7, 11), (7, 12), (7, 13), (9, 9)] [(7, 0), (7, 1), (7, 2), (7, 4), (7, 5), (7, 6), (7, 7), (7, 8)] S T) ∧ K2 S T ∧ ((NFq 9 9 c9 v0 T))) hI o_v0 (fun r T h0 h1 h2 h3 h4 => ⟨h0, h1, h2, h3, h4⟩))) (fun r T a b => ⟨a.1, a.2, b.2⟩)) (cm_X9_step (Q3 := fun r T => (IV T ∧ Gr S T ∧ (FRI [(7, 3), (7, 9), (7, 10), (7, 11), (7, 12), (7, 13), (9, 9)] [(7, 0), (7, 1), (7, 2), (7, 4), (7, 5), (7, 6), (7, 7), (7, 8)] S T) ∧ K2 S T ∧ ((NFq 9 9 c9 v0 T))) ∧ (K9 false LA S T ∧ K9 true LB S T)) (ky_X9_step (b := false) (L := LA) (by decide) (by decide) (fun _ => rfl) (mn_X9_step (Q := fun r T => IV T ∧ Gr S T ∧ (FRI [(7, 3), (7, 9), (7, 10), (7, 11), (7, 12), (7, 13), (9, 9)] [(7, 0), (7, 1), (7, 2), (7, 4), (7, 5), (7, 6), (7, 7), (7, 8)] S T) ∧ K2 S T ∧ ((NFq 9 9 c9 v0 T))) hI o_v0 (fun r T h0 h1 h2 h3 h4 => ⟨h0, h1, h2, h3, h4⟩))) (ky_X9_step (b := true) (L := LB) (by decide) (by decide) (fun z => z.elim) (mn_X9_step (Q := fun r T => IV T ∧ Gr S T ∧ (FRI [(7, 3), (7, 9), (7, 10), (7, 11), (7, 12), (7, 13), (9, 9)] [(7, 0), (7, 1), (7, 2), (7, 4), (7, 5), (7, 6), (7, 7), (7, 8)] S T) ∧ K2 S T ∧ ((NFq 9 9 c9 v0 T))) hI o_v0 (fun r T h0 h1 h2 h3 h4 => ⟨h0, h1, h2, h3, h4⟩))) (fun r T a b => ⟨a.1, a.2, b.2⟩)) (fun r T a b => ⟨a.1, a.2, b.2⟩)) (tl_X9_step hI o_v0 ab gb ge J.1 (wt_of hI J hc ct ab) lg wd (mn_X9_step (Q := fun r T => IV T ∧ Gr S T ∧ (FRI [(7, 3), (7, 9), (7, 10), (7, 11), (7, 12), (7, 13), (9, 9)] [(7, 0), (7, 1), (7, 2), (7, 4), (7, 5), (7, 6), (7, 7), (7, 8)] S T) ∧ K2 S T ∧ ((NFq 9 9 c9 v0 T))) hI o_v0 (fun r T h0 h1 h2 h3 h4 => ⟨h0, h1, h2, h3, h4⟩))) (fun r T a b => ⟨a.1, a.2, b.2⟩)) (mn_X9_step (Q := fun r T => IV T ∧ Gr S T ∧ (FRI [(7, 3), (7, 9), (7, 10), (7, 11), (7, 12), (7, 13), (9, 9)] [(7, 0), (7, 1), (7, 2), (7, 4), (7, 5), (7, 6), (7, 7), (7, 8)] S T) ∧ K2 S T ∧ ((NFq 9 9 c9 v0 T))) hI o_v0 (fun r T h0 h1 h2 h3 h4 => ⟨h0, h1, h2, h3, h4⟩)) (fun r T h _ => hq r T h.1.1 h.1.2.1 h.1.2.2.1 h.1.2.2.2.1 h.1.2.2.2.2 h.2)
theorem mt_X9_steps {v0 : Nat} {v1 : Int32} {v2 : Int32} {v3 : Int32} {v4 : Int32} {v5 : Int32} {Q : Int32 → HS → Prop} {S : HS} (hI : IV S) (o_v0 : ob S v0 9) {rr w1 w2 l9 p9 q9 : Nat} {A : AS} {G : GC} (J : CJ v0 rr w1 w2 S) (hc : Cnt w1 A S) (ct : CtB w1 A G S S) (ab : ABd A) (gb : GBd A G) (ge : GBe A G) (lg : LG v0 l9 p9 q9 S) (wd : WYd v0 A G S) (hq : ∀ (r : Int32) (T : HS), IV T → Gr S T → FRI [(7, 3), (7, 9), (7, 10), (7, 11), (7, 12), (7, 13), (9, 9)] [(7, 0), (7, 1), (7, 2), (7, 4), (7, 5), (7, 6), (7, 7), (7, 8)] S T → K2 S T → (NFq 9 9 c9 v0 T) → (((K7 S T ∧ K8 S T) ∧ (K9 false LA S T ∧ K9 true LB S T)) ∧ r = tellsteps A G v1 v2 v3 v4 v5 ∧ WYd v0 A G T) → Q r T) : P_X9_steps v0 v1 v2 v3 v4 v5 Q S := cm_X9_steps (cm_X9_steps (Q3 := fun r T => (IV T ∧ Gr S T ∧ (FRI [(7, 3), (7, 9), (7, 10), (7, 11), (7, 12), (7, 13), (9, 9)] [(7, 0), (7, 1), (7, 2), (7, 4), (7, 5), (7, 6), (7, 7), (7, 8)] S T) ∧ K2 S T ∧ ((NFq 9 9 c9 v0 T))) ∧ ((K7 S T ∧ K8 S T) ∧ (K9 false LA S T ∧ K9 true LB S T)) ∧ r = tellsteps A G v1 v2 v3 v4 v5 ∧ WYd v0 A G T) (cm_X9_steps (Q3 := fun r T => (IV T ∧ Gr S T ∧ (FRI [(7, 3), (7, 9), (7, 10), (7, 11), (7, 12), (7, 13), (9, 9)] [(7, 0), (7, 1), (7, 2), (7, 4), (7, 5), (7, 6), (7, 7), (7, 8)] S T) ∧ K2 S T ∧ ((NFq 9 9 c9 v0 T))) ∧ (K7 S T ∧ K8 S T) ∧ (K9 false LA S T ∧ K9 true LB S T)) (cm_X9_steps (Q3 := fun r T => (IV T ∧ Gr S T ∧ (FRI [(7, 3), (7, 9), (7, 10), (7, 11), (7, 12), (7, 13), (9, 9)] [(7, 0), (7, 1), (7, 2), (7, 4), (7, 5), (7, 6), (7, 7), (7, 8)] S T) ∧ K2 S T ∧ ((NFq 9 9 c9 v0 T))) ∧ K7 S T ∧ K8 S T) (kw_X9_steps (mn_X9_steps (Q := fun r T => IV T ∧ Gr S T ∧ (FRI [(7, 3), (7, 9), (7, 10), (7, 11), (7, 12), (7, 13), (9, 9)] [(7, 0), (7, 1), (7, 2), (7, 4), (7, 5), (7, 6), (7, 7), (7, 8)] S T) ∧ K2 S T ∧ ((NFq 9 9 c9 v0 T))) hI o_v0 (fun r T h0 h1 h2 h3 h4 => ⟨h0, h1, h2, h3, h4⟩))) (kx_X9_steps (mn_X9_steps (Q := fun r T => IV T ∧ Gr S T ∧ (FRI [(7, 3), (7, 9), (7, 10), (7, 11), (7, 12), (7, 13), (9, 9)] [(7, 0), (7, 1), (7, 2), (7, 4), (7, 5), (7, 6), (7, 7), (7, 8)] S T) ∧ K2 S T ∧ ((NFq 9 9 c9 v0 T))) hI o_v0 (fun r T h0 h1 h2 h3 h4 => ⟨h0, h1, h2, h3, h4⟩))) (fun r T a b => ⟨a.1, a.2, b.2⟩)) (cm_X9_steps (Q3 := fun r T => (IV T ∧ Gr S T ∧ (FRI [(7, 3), (7, 9), (7, 10), (7, 11), (7, 12), (7, 13), (9, 9)] [(7, 0), (7, 1), (7, 2), (7, 4), (7, 5), (7, 6), (7, 7), (7, 8)] S T) ∧ K2 S T ∧ ((NFq 9 9 c9 v0 T))) ∧ (K9 false LA S T ∧ K9 true LB S T)) (ky_X9_steps (b := false) (L := LA) (by decide) (by decide) (fun _ => rfl) (mn_X9_steps (Q := fun r T => IV T ∧ Gr S T ∧ (FRI [(7, 3), (7, 9), (7, 10), (7, 11), (7, 12), (7, 13), (9, 9)] [(7, 0), (7, 1), (7, 2), (7, 4), (7, 5), (7, 6), (7, 7), (7, 8)] S T) ∧ K2 S T ∧ ((NFq 9 9 c9 v0 T))) hI o_v0 (fun r T h0 h1 h2 h3 h4 => ⟨h0, h1, h2, h3, h4⟩))) (ky_X9_steps (b := true) (L := LB) (by decide) (by decide) (fun z => z.elim) (mn_X9_steps (Q := fun r T => IV T ∧ Gr S T ∧ (FRI [(7, 3), (7, 9), (7, 10), (7, 11), (7, 12), (7, 13), (9, 9)] [(7, 0), (7, 1), (7, 2), (7, 4), (7, 5), (7, 6), (7, 7), (7, 8)] S T) ∧ K2 S T ∧ ((NFq 9 9 c9 v0 T))) hI o_v0 (fun r T h0 h1 h2 h3 h4 => ⟨h0, h1, h2, h3, h4⟩))) (fun r T a b => ⟨a.1, a.2, b.2⟩)) (fun r T a b => ⟨a.1, a.2, b.2⟩)) (tl_X9_steps hI o_v0 ab gb ge J.1 (wt_of hI J hc ct ab) lg wd (mn_X9_steps (Q := fun r T => IV T ∧ Gr S T ∧ (FRI [(7, 3), (7, 9), (7, 10), (7, 11), (7, 12), (7, 13), (9, 9)] [(7, 0), (7, 1), (7, 2), (7, 4), (7, 5), (7, 6), (7, 7), (7, 8)] S T) ∧ K2 S T ∧ ((NFq 9 9 c9 v0 T))) hI o_v0 (fun r T h0 h1 h2 h3 h4 => ⟨h0, h1, h2, h3, h4⟩))) (fun r T a b => ⟨a.1, a.2, b.2⟩)) (mn_X9_steps (Q := fun r T => IV T ∧ Gr S T ∧ (FRI [(7, 3), (7, 9), (7, 10), (7, 11), (7, 12), (7, 13), (9, 9)] [(7, 0), (7, 1), (7, 2), (7, 4), (7, 5), (7, 6), (7, 7), (7, 8)] S T) ∧ K2 S T ∧ ((NFq 9 9 c9 v0 T))) hI o_v0 (fun r T h0 h1 h2 h3 h4 => ⟨h0, h1, h2, h3, h4⟩)) (fun r T h _ => hq r T h.1.1 h.1.2.1 h.1.2.2.1 h.1.2.2.2.1 h.1.2.2.2.2 h.2)
theorem mt_X9_there {v0 : Nat} {v1 : Int32} {v2 : Int32} {v3 : Int32} {v4 : Int32} {v5 : Int32} {Q : Int32 → HS → Prop} {S : HS} (hI : IV S) (o_v0 : ob S v0 9) {rr w1 w2 l9 p9 q9 : Nat} {A : AS} {G : GC} (J : CJ v0 rr w1 w2 S) (hc : Cnt w1 A S) (ct : CtB w1 A G S S) (ab : ABd A) (gb : GBd A G) (ge : GBe A G) (lg : LG v0 l9 p9 q9 S) (wd : WYd v0 A G S) (hq : ∀ (r : Int32) (T : HS), IV T → Gr S T → FRI [(7, 3), (7, 9), (7, 10), (7, 11), (7, 12), (7, 13), (9, 9)] [(7, 0), (7, 1), (7, 2), (7, 4), (7, 5), (7, 6), (7, 7), (7, 8)] S T → K2 S T → (NFq 9 9 c9 v0 T) → (((K7 S T ∧ K8 S T) ∧ (K9 false LA S T ∧ K9 true LB S T)) ∧ r = tellthere A G v1 v2 v3 v4 v5 ∧ WYd v0 A G T) → Q r T) : P_X9_there v0 v1 v2 v3 v4 v5 Q S := cm_X9_there (cm_X9_there (Q3 := fun r T => (IV T ∧ Gr S T ∧ (FRI [(7, 3), (7, 9), (7, 10), (7, 11), (7, 12), (7, 13), (9, 9)] [(7, 0), (7, 1), (7, 2), (7, 4), (7, 5), (7, 6), (7, 7), (7, 8)] S T) ∧ K2 S T ∧ ((NFq 9 9 c9 v0 T))) ∧ ((K7 S T ∧ K8 S T) ∧ (K9 false LA S T ∧ K9 true LB S T)) ∧ r = tellthere A G v1 v2 v3 v4 v5 ∧ WYd v0 A G T) (cm_X9_there (Q3 := fun r T => (IV T ∧ Gr S T ∧ (FRI [(7, 3), (7, 9), (7, 10), (7, 11), (7, 12), (7, 13), (9, 9)] [(7, 0), (7, 1), (7, 2), (7, 4), (7, 5), (7, 6), (7, 7), (7, 8)] S T) ∧ K2 S T ∧ ((NFq 9 9 c9 v0 T))) ∧ (K7 S T ∧ K8 S T) ∧ (K9 false LA S T ∧ K9 true LB S T)) (cm_X9_there (Q3 := fun r T => (IV T ∧ Gr S T ∧ (FRI [(7, 3), (7, 9), (7, 10), (7, 11), (7, 12), (7, 13), (9, 9)] [(7, 0), (7, 1), (7, 2), (7, 4), (7, 5), (7, 6), (7, 7), (7, 8)] S T) ∧ K2 S T ∧ ((NFq 9 9 c9 v0 T))) ∧ K7 S T ∧ K8 S T) (kw_X9_there (mn_X9_there (Q := fun r T => IV T ∧ Gr S T ∧ (FRI [(7, 3), (7, 9), (7, 10), (7, 11), (7, 12), (7, 13), (9, 9)] [(7, 0), (7, 1), (7, 2), (7, 4), (7, 5), (7, 6), (7, 7), (7, 8)] S T) ∧ K2 S T ∧ ((NFq 9 9 c9 v0 T))) hI o_v0 (fun r T h0 h1 h2 h3 h4 => ⟨h0, h1, h2, h3, h4⟩))) (kx_X9_there (mn_X9_there (Q := fun r T => IV T ∧ Gr S T ∧ (FRI [(7, 3), (7, 9), (7, 10), (7, 11), (7, 12), (7, 13), (9, 9)] [(7, 0), (7, 1), (7, 2), (7, 4), (7, 5), (7, 6), (7, 7), (7, 8)] S T) ∧ K2 S T ∧ ((NFq 9 9 c9 v0 T))) hI o_v0 (fun r T h0 h1 h2 h3 h4 => ⟨h0, h1, h2, h3, h4⟩))) (fun r T a b => ⟨a.1, a.2, b.2⟩)) (cm_X9_there (Q3 := fun r T => (IV T ∧ Gr S T ∧ (FRI [(7, 3), (7, 9), (7, 10), (7, 11), (7, 12), (7, 13), (9, 9)] [(7, 0), (7, 1), (7, 2), (7, 4), (7, 5), (7, 6), (7, 7), (7, 8)] S T) ∧ K2 S T ∧ ((NFq 9 9 c9 v0 T))) ∧ (K9 false LA S T ∧ K9 true LB S T)) (ky_X9_there (b := false) (L := LA) (by decide) (by decide) (fun _ => rfl) (mn_X9_there (Q := fun r T => IV T ∧ Gr S T ∧ (FRI [(7, 3), (7, 9), (7, 10), (7, 11), (7, 12), (7, 13), (9, 9)] [(7, 0), (7, 1), (7, 2), (7, 4), (7, 5), (7, 6), (7, 7), (7, 8)] S T) ∧ K2 S T ∧ ((NFq 9 9 c9 v0 T))) hI o_v0 (fun r T h0 h1 h2 h3 h4 => ⟨h0, h1, h2, h3, h4⟩))) (ky_X9_there (b := true) (L := LB) (by decide) (by decide) (fun z => z.elim) (mn_X9_there (Q := fun r T => IV T ∧ Gr S T ∧ (FRI [(7, 3), (7, 9), (7, 10), (7, 11), (7, 12), (7, 13), (9, 9)] [(7, 0), (7, 1), (7, 2), (7, 4), (7, 5), (7, 6), (7, 7), (7, 8)] S T) ∧ K2 S T ∧ ((NFq 9 9 c9 v0 T))) hI o_v0 (fun r T h0 h1 h2 h3 h4 => ⟨h0, h1, h2, h3, h4⟩))) (fun r T a b => ⟨a.1, a.2, b.2⟩)) (fun r T a b => ⟨a.1, a.2, b.2⟩)) (tl_X9_there hI o_v0 ab gb ge J.1 (wt_of hI J hc ct ab) lg wd (mn_X9_there (Q := fun r T => IV T ∧ Gr S T ∧ (FRI [(7, 3), (7, 9), (7, 10), (7, 11), (7, 12), (7, 13), (9, 9)] [(7, 0), (7, 1), (7, 2), (7, 4), (7, 5), (7, 6), (7, 7), (7, 8)] S T) ∧ K2 S T ∧ ((NFq 9 9 c9 v0 T))) hI o_v0 (fun r T h0 h1 h2 h3 h4 => ⟨h0, h1, h2, h3, h4⟩))) (fun r T a b => ⟨a.1, a.2, b.2⟩)) (mn_X9_there (Q := fun r T => IV T ∧ Gr S T ∧ (FRI [(7, 3), (7, 9), (7, 10), (7, 11), (7, 12), (7, 13), (9, 9)] [(7, 0), (7, 1), (7, 2), (7, 4), (7, 5), (7, 6), (7, 7), (7, 8)] S T) ∧ K2 S T ∧ ((NFq 9 9 c9 v0 T))) hI o_v0 (fun r T h0 h1 h2 h3 h4 => ⟨h0, h1, h2, h3, h4⟩)) (fun r T h _ => hq r T h.1.1 h.1.2.1 h.1.2.2.1 h.1.2.2.2.1 h.1.2.2.2.2 h.2)
theorem mt_X9_undo {v0 : Nat} {Q : Int32 → HS → Prop} {S : HS} (hI : IV S) (o_v0 : ob S v0 9) {rr w1 w2 l9 p9 q9 : Nat} {A : AS} {G : GC} (J : CJ v0 rr w1 w2 S) (hc : Cnt w1 A S) (ct : CtB w1 A G S S) (ab : ABd A) (gb : GBd A G) (lg : LG v0 l9 p9 q9 S) {dy : Nat} {D : DY} (e6 : fR S v0 6 = some dy) (cd : CDd dy D S) (db : DBd A D) (hq : ∀ (r : Int32) (T : HS), IV T → Gr S T → FRI [(0, 2), (2, 0), (2, 1), (9, 9)] [] S T → bl r → K2 S T → (NFq 9 9 c9 v0 T) → ((((K7 S T ∧ K8 S T) ∧ K9 false LA S T) ∧ (KJ LWJ S T ∧ K9 false LWL S T)) ∧ ans (0 < dU D) r ∧ CDd dy (nxundo D) T) → Q r T) : P_X9_undo v0 Q S := cm_X9_undo (cm_X9_undo (Q3 := fun r T => (IV T ∧ Gr S T ∧ (FRI [(0, 2), (2, 0), (2, 1), (9, 9)] [] S T) ∧ bl r ∧ K2 S T ∧ ((NFq 9 9 c9 v0 T))) ∧ (((K7 S T ∧ K8 S T) ∧ K9 false LA S T) ∧ (KJ LWJ S T ∧ K9 false LWL S T)) ∧ ans (0 < dU D) r ∧ CDd dy (nxundo D) T) (cm_X9_undo (Q3 := fun r T => (IV T ∧ Gr S T ∧ (FRI [(0, 2), (2, 0), (2, 1), (9, 9)] [] S T) ∧ bl r ∧ K2 S T ∧ ((NFq 9 9 c9 v0 T))) ∧ ((K7 S T ∧ K8 S T) ∧ K9 false LA S T) ∧ (KJ LWJ S T ∧ K9 false LWL S T)) (cm_X9_undo (Q3 := fun r T => (IV T ∧ Gr S T ∧ (FRI [(0, 2), (2, 0), (2, 1), (9, 9)] [] S T) ∧ bl r ∧ K2 S T ∧ ((NFq 9 9 c9 v0 T))) ∧ (K7 S T ∧ K8 S T) ∧ K9 false LA S T) (cm_X9_undo (Q3 := fun r T => (IV T ∧ Gr S T ∧ (FRI [(0, 2), (2, 0), (2, 1), (9, 9)] [] S T) ∧ bl r ∧ K2 S T ∧ ((NFq 9 9 c9 v0 T))) ∧ K7 S T ∧ K8 S T) (kw_X9_undo (mn_X9_undo (Q := fun r T => IV T ∧ Gr S T ∧ (FRI [(0, 2), (2, 0), (2, 1), (9, 9)] [] S T) ∧ bl r ∧ K2 S T ∧ ((NFq 9 9 c9 v0 T))) hI o_v0 (fun r T h0 h1 h2 h3 h4 h5 => ⟨h0, h1, h2, h3, h4, h5⟩))) (kx_X9_undo (mn_X9_undo (Q := fun r T => IV T ∧ Gr S T ∧ (FRI [(0, 2), (2, 0), (2, 1), (9, 9)] [] S T) ∧ bl r ∧ K2 S T ∧ ((NFq 9 9 c9 v0 T))) hI o_v0 (fun r T h0 h1 h2 h3 h4 h5 => ⟨h0, h1, h2, h3, h4, h5⟩))) (fun r T a b => ⟨a.1, a.2, b.2⟩)) (ky_X9_undo (b := false) (L := LA) (by decide) (by decide) (fun _ => rfl) (mn_X9_undo (Q := fun r T => IV T ∧ Gr S T ∧ (FRI [(0, 2), (2, 0), (2, 1), (9, 9)] [] S T) ∧ bl r ∧ K2 S T ∧ ((NFq 9 9 c9 v0 T))) hI o_v0 (fun r T h0 h1 h2 h3 h4 h5 => ⟨h0, h1, h2, h3, h4, h5⟩))) (fun r T a b => ⟨a.1, a.2, b.2⟩)) (cm_X9_undo (Q3 := fun r T => (IV T ∧ Gr S T ∧ (FRI [(0, 2), (2, 0), (2, 1), (9, 9)] [] S T) ∧ bl r ∧ K2 S T ∧ ((NFq 9 9 c9 v0 T))) ∧ (KJ LWJ S T ∧ K9 false LWL S T)) (kj_X9_undo (L := LWJ) (by decide) (by decide) (mn_X9_undo (Q := fun r T => IV T ∧ Gr S T ∧ (FRI [(0, 2), (2, 0), (2, 1), (9, 9)] [] S T) ∧ bl r ∧ K2 S T ∧ ((NFq 9 9 c9 v0 T))) hI o_v0 (fun r T h0 h1 h2 h3 h4 h5 => ⟨h0, h1, h2, h3, h4, h5⟩))) (ky_X9_undo (b := false) (L := LWL) (by decide) (by decide) (fun _ => rfl) (mn_X9_undo (Q := fun r T => IV T ∧ Gr S T ∧ (FRI [(0, 2), (2, 0), (2, 1), (9, 9)] [] S T) ∧ bl r ∧ K2 S T ∧ ((NFq 9 9 c9 v0 T))) hI o_v0 (fun r T h0 h1 h2 h3 h4 h5 => ⟨h0, h1, h2, h3, h4, h5⟩))) (fun r T a b => ⟨a.1, a.2, b.2⟩)) (fun r T a b => ⟨a.1, a.2, b.2⟩)) (tl_X9_undo J.2.2.2.1 e6 cd (mn_X9_undo (Q := fun r T => IV T ∧ Gr S T ∧ (FRI [(0, 2), (2, 0), (2, 1), (9, 9)] [] S T) ∧ bl r ∧ K2 S T ∧ ((NFq 9 9 c9 v0 T))) hI o_v0 (fun r T h0 h1 h2 h3 h4 h5 => ⟨h0, h1, h2, h3, h4, h5⟩))) (fun r T a b => ⟨a.1, a.2, b.2⟩)) (mn_X9_undo (Q := fun r T => IV T ∧ Gr S T ∧ (FRI [(0, 2), (2, 0), (2, 1), (9, 9)] [] S T) ∧ bl r ∧ K2 S T ∧ ((NFq 9 9 c9 v0 T))) hI o_v0 (fun r T h0 h1 h2 h3 h4 h5 => ⟨h0, h1, h2, h3, h4, h5⟩)) (fun r T h _ => hq r T h.1.1 h.1.2.1 h.1.2.2.1 h.1.2.2.2.1 h.1.2.2.2.2.1 h.1.2.2.2.2.2 h.2)
theorem mz_X9_walker {v0 : Nat} {v1 : Int32} {v2 : Int32} {Q : Int32 → HS → Prop} {S : HS} (hI : IV S) (o_v0 : ob S v0 9)  (hq : ∀ (r : Int32) (T : HS), IV T → Gr S T → FRI [(9, 9)] [] S T → K2 S T → (NFq 9 9 c9 v0 T) → (((K7 S T ∧ K8 S T) ∧ (K9 false LA S T ∧ K9 true LB S T)) ∧ (KJ LWJ S T ∧ K9 false LWL S T)) → Q r T) : P_X9_walker v0 v1 v2 Q S := cm_X9_walker (cm_X9_walker (Q3 := fun r T => (IV T ∧ Gr S T ∧ (FRI [(9, 9)] [] S T) ∧ K2 S T ∧ ((NFq 9 9 c9 v0 T))) ∧ ((K7 S T ∧ K8 S T) ∧ (K9 false LA S T ∧ K9 true LB S T)) ∧ (KJ LWJ S T ∧ K9 false LWL S T)) (cm_X9_walker (Q3 := fun r T => (IV T ∧ Gr S T ∧ (FRI [(9, 9)] [] S T) ∧ K2 S T ∧ ((NFq 9 9 c9 v0 T))) ∧ (K7 S T ∧ K8 S T) ∧ (K9 false LA S T ∧ K9 true LB S T)) (cm_X9_walker (Q3 := fun r T => (IV T ∧ Gr S T ∧ (FRI [(9, 9)] [] S T) ∧ K2 S T ∧ ((NFq 9 9 c9 v0 T))) ∧ K7 S T ∧ K8 S T) (kw_X9_walker (mn_X9_walker (Q := fun r T => IV T ∧ Gr S T ∧ (FRI [(9, 9)] [] S T) ∧ K2 S T ∧ ((NFq 9 9 c9 v0 T))) hI o_v0 (fun r T h0 h1 h2 h3 h4 => ⟨h0, h1, h2, h3, h4⟩))) (kx_X9_walker (mn_X9_walker (Q := fun r T => IV T ∧ Gr S T ∧ (FRI [(9, 9)] [] S T) ∧ K2 S T ∧ ((NFq 9 9 c9 v0 T))) hI o_v0 (fun r T h0 h1 h2 h3 h4 => ⟨h0, h1, h2, h3, h4⟩))) (fun r T a b => ⟨a.1, a.2, b.2⟩)) (cm_X9_walker (Q3 := fun r T => (IV T ∧ Gr S T ∧ (FRI [(9, 9)] [] S T) ∧ K2 S T ∧ ((NFq 9 9 c9 v0 T))) ∧ (K9 false LA S T ∧ K9 true LB S T)) (ky_X9_walker (b := false) (L := LA) (by decide) (by decide) (fun _ => rfl) (mn_X9_walker (Q := fun r T => IV T ∧ Gr S T ∧ (FRI [(9, 9)] [] S T) ∧ K2 S T ∧ ((NFq 9 9 c9 v0 T))) hI o_v0 (fun r T h0 h1 h2 h3 h4 => ⟨h0, h1, h2, h3, h4⟩))) (ky_X9_walker (b := true) (L := LB) (by decide) (by decide) (fun z => z.elim) (mn_X9_walker (Q := fun r T => IV T ∧ Gr S T ∧ (FRI [(9, 9)] [] S T) ∧ K2 S T ∧ ((NFq 9 9 c9 v0 T))) hI o_v0 (fun r T h0 h1 h2 h3 h4 => ⟨h0, h1, h2, h3, h4⟩))) (fun r T a b => ⟨a.1, a.2, b.2⟩)) (fun r T a b => ⟨a.1, a.2, b.2⟩)) (cm_X9_walker (Q3 := fun r T => (IV T ∧ Gr S T ∧ (FRI [(9, 9)] [] S T) ∧ K2 S T ∧ ((NFq 9 9 c9 v0 T))) ∧ (KJ LWJ S T ∧ K9 false LWL S T)) (kj_X9_walker (L := LWJ) (by decide) (by decide) (mn_X9_walker (Q := fun r T => IV T ∧ Gr S T ∧ (FRI [(9, 9)] [] S T) ∧ K2 S T ∧ ((NFq 9 9 c9 v0 T))) hI o_v0 (fun r T h0 h1 h2 h3 h4 => ⟨h0, h1, h2, h3, h4⟩))) (ky_X9_walker (b := false) (L := LWL) (by decide) (by decide) (fun _ => rfl) (mn_X9_walker (Q := fun r T => IV T ∧ Gr S T ∧ (FRI [(9, 9)] [] S T) ∧ K2 S T ∧ ((NFq 9 9 c9 v0 T))) hI o_v0 (fun r T h0 h1 h2 h3 h4 => ⟨h0, h1, h2, h3, h4⟩))) (fun r T a b => ⟨a.1, a.2, b.2⟩)) (fun r T a b => ⟨a.1, a.2, b.2⟩)) (mn_X9_walker (Q := fun r T => IV T ∧ Gr S T ∧ (FRI [(9, 9)] [] S T) ∧ K2 S T ∧ ((NFq 9 9 c9 v0 T))) hI o_v0 (fun r T h0 h1 h2 h3 h4 => ⟨h0, h1, h2, h3, h4⟩)) (fun r T h _ => hq r T h.1.1 h.1.2.1 h.1.2.2.1 h.1.2.2.2.1 h.1.2.2.2.2 h.2)
theorem mz_X9_wet {v0 : Nat} {v1 : Int32} {v2 : Int32} {v3 : Int32} {v4 : Int32} {v5 : Int32} {v6 : Int32} {Q : Int64 → HS → Prop} {S : HS} (hI : IV S) (o_v0 : ob S v0 9)  (hq : ∀ (r : Int64) (T : HS), IV T → Gr S T → FRI [(9, 9)] [] S T → K2 S T → (NFq 9 9 c9 v0 T) → (((K7 S T ∧ K8 S T) ∧ (K9 false LA S T ∧ K9 true LB S T)) ∧ (KJ LWJ S T ∧ K9 false LWL S T)) → Q r T) : P_X9_wet v0 v1 v2 v3 v4 v5 v6 Q S := cm_X9_wet (cm_X9_wet (Q3 := fun r T => (IV T ∧ Gr S T ∧ (FRI [(9, 9)] [] S T) ∧ K2 S T ∧ ((NFq 9 9 c9 v0 T))) ∧ ((K7 S T ∧ K8 S T) ∧ (K9 false LA S T ∧ K9 true LB S T)) ∧ (KJ LWJ S T ∧ K9 false LWL S T)) (cm_X9_wet (Q3 := fun r T => (IV T ∧ Gr S T ∧ (FRI [(9, 9)] [] S T) ∧ K2 S T ∧ ((NFq 9 9 c9 v0 T))) ∧ (K7 S T ∧ K8 S T) ∧ (K9 false LA S T ∧ K9 true LB S T)) (cm_X9_wet (Q3 := fun r T => (IV T ∧ Gr S T ∧ (FRI [(9, 9)] [] S T) ∧ K2 S T ∧ ((NFq 9 9 c9 v0 T))) ∧ K7 S T ∧ K8 S T) (kw_X9_wet (mn_X9_wet (Q := fun r T => IV T ∧ Gr S T ∧ (FRI [(9, 9)] [] S T) ∧ K2 S T ∧ ((NFq 9 9 c9 v0 T))) hI o_v0 (fun r T h0 h1 h2 h3 h4 => ⟨h0, h1, h2, h3, h4⟩))) (kx_X9_wet (mn_X9_wet (Q := fun r T => IV T ∧ Gr S T ∧ (FRI [(9, 9)] [] S T) ∧ K2 S T ∧ ((NFq 9 9 c9 v0 T))) hI o_v0 (fun r T h0 h1 h2 h3 h4 => ⟨h0, h1, h2, h3, h4⟩))) (fun r T a b => ⟨a.1, a.2, b.2⟩)) (cm_X9_wet (Q3 := fun r T => (IV T ∧ Gr S T ∧ (FRI [(9, 9)] [] S T) ∧ K2 S T ∧ ((NFq 9 9 c9 v0 T))) ∧ (K9 false LA S T ∧ K9 true LB S T)) (ky_X9_wet (b := false) (L := LA) (by decide) (by decide) (fun _ => rfl) (mn_X9_wet (Q := fun r T => IV T ∧ Gr S T ∧ (FRI [(9, 9)] [] S T) ∧ K2 S T ∧ ((NFq 9 9 c9 v0 T))) hI o_v0 (fun r T h0 h1 h2 h3 h4 => ⟨h0, h1, h2, h3, h4⟩))) (ky_X9_wet (b := true) (L := LB) (by decide) (by decide) (fun z => z.elim) (mn_X9_wet (Q := fun r T => IV T ∧ Gr S T ∧ (FRI [(9, 9)] [] S T) ∧ K2 S T ∧ ((NFq 9 9 c9 v0 T))) hI o_v0 (fun r T h0 h1 h2 h3 h4 => ⟨h0, h1, h2, h3, h4⟩))) (fun r T a b => ⟨a.1, a.2, b.2⟩)) (fun r T a b => ⟨a.1, a.2, b.2⟩)) (cm_X9_wet (Q3 := fun r T => (IV T ∧ Gr S T ∧ (FRI [(9, 9)] [] S T) ∧ K2 S T ∧ ((NFq 9 9 c9 v0 T))) ∧ (KJ LWJ S T ∧ K9 false LWL S T)) (kj_X9_wet (L := LWJ) (by decide) (by decide) (mn_X9_wet (Q := fun r T => IV T ∧ Gr S T ∧ (FRI [(9, 9)] [] S T) ∧ K2 S T ∧ ((NFq 9 9 c9 v0 T))) hI o_v0 (fun r T h0 h1 h2 h3 h4 => ⟨h0, h1, h2, h3, h4⟩))) (ky_X9_wet (b := false) (L := LWL) (by decide) (by decide) (fun _ => rfl) (mn_X9_wet (Q := fun r T => IV T ∧ Gr S T ∧ (FRI [(9, 9)] [] S T) ∧ K2 S T ∧ ((NFq 9 9 c9 v0 T))) hI o_v0 (fun r T h0 h1 h2 h3 h4 => ⟨h0, h1, h2, h3, h4⟩))) (fun r T a b => ⟨a.1, a.2, b.2⟩)) (fun r T a b => ⟨a.1, a.2, b.2⟩)) (mn_X9_wet (Q := fun r T => IV T ∧ Gr S T ∧ (FRI [(9, 9)] [] S T) ∧ K2 S T ∧ ((NFq 9 9 c9 v0 T))) hI o_v0 (fun r T h0 h1 h2 h3 h4 => ⟨h0, h1, h2, h3, h4⟩)) (fun r T h _ => hq r T h.1.1 h.1.2.1 h.1.2.2.1 h.1.2.2.2.1 h.1.2.2.2.2 h.2)
theorem mz_X9_wetness {v0 : Nat} {v1 : Int32} {Q : Int64 → HS → Prop} {S : HS} (hI : IV S) (o_v0 : ob S v0 9)  (hq : ∀ (r : Int64) (T : HS), IV T → Gr S T → FRI [(9, 9)] [] S T → K2 S T → (NFq 9 9 c9 v0 T) → (((K7 S T ∧ K8 S T) ∧ (K9 false LA S T ∧ K9 true LB S T)) ∧ (KJ LWJ S T ∧ K9 false LWL S T)) → Q r T) : P_X9_wetness v0 v1 Q S := cm_X9_wetness (cm_X9_wetness (Q3 := fun r T => (IV T ∧ Gr S T ∧ (FRI [(9, 9)] [] S T) ∧ K2 S T ∧ ((NFq 9 9 c9 v0 T))) ∧ ((K7 S T ∧ K8 S T) ∧ (K9 false LA S T ∧ K9 true LB S T)) ∧ (KJ LWJ S T ∧ K9 false LWL S T)) (cm_X9_wetness (Q3 := fun r T => (IV T ∧ Gr S T ∧ (FRI [(9, 9)] [] S T) ∧ K2 S T ∧ ((NFq 9 9 c9 v0 T))) ∧ (K7 S T ∧ K8 S T) ∧ (K9 false LA S T ∧ K9 true LB S T)) (cm_X9_wetness (Q3 := fun r T => (IV T ∧ Gr S T ∧ (FRI [(9, 9)] [] S T) ∧ K2 S T ∧ ((NFq 9 9 c9 v0 T))) ∧ K7 S T ∧ K8 S T) (kw_X9_wetness (mn_X9_wetness (Q := fun r T => IV T ∧ Gr S T ∧ (FRI [(9, 9)] [] S T) ∧ K2 S T ∧ ((NFq 9 9 c9 v0 T))) hI o_v0 (fun r T h0 h1 h2 h3 h4 => ⟨h0, h1, h2, h3, h4⟩))) (kx_X9_wetness (mn_X9_wetness (Q := fun r T => IV T ∧ Gr S T ∧ (FRI [(9, 9)] [] S T) ∧ K2 S T ∧ ((NFq 9 9 c9 v0 T))) hI o_v0 (fun r T h0 h1 h2 h3 h4 => ⟨h0, h1, h2, h3, h4⟩))) (fun r T a b => ⟨a.1, a.2, b.2⟩)) (cm_X9_wetness (Q3 := fun r T => (IV T ∧ Gr S T ∧ (FRI [(9, 9)] [] S T) ∧ K2 S T ∧ ((NFq 9 9 c9 v0 T))) ∧ (K9 false LA S T ∧ K9 true LB S T)) (ky_X9_wetness (b := false) (L := LA) (by decide) (by decide) (fun _ => rfl) (mn_X9_wetness (Q := fun r T => IV T ∧ Gr S T ∧ (FRI [(9, 9)] [] S T) ∧ K2 S T ∧ ((NFq 9 9 c9 v0 T))) hI o_v0 (fun r T h0 h1 h2 h3 h4 => ⟨h0, h1, h2, h3, h4⟩))) (ky_X9_wetness (b := true) (L := LB) (by decide) (by decide) (fun z => z.elim) (mn_X9_wetness (Q := fun r T => IV T ∧ Gr S T ∧ (FRI [(9, 9)] [] S T) ∧ K2 S T ∧ ((NFq 9 9 c9 v0 T))) hI o_v0 (fun r T h0 h1 h2 h3 h4 => ⟨h0, h1, h2, h3, h4⟩))) (fun r T a b => ⟨a.1, a.2, b.2⟩)) (fun r T a b => ⟨a.1, a.2, b.2⟩)) (cm_X9_wetness (Q3 := fun r T => (IV T ∧ Gr S T ∧ (FRI [(9, 9)] [] S T) ∧ K2 S T ∧ ((NFq 9 9 c9 v0 T))) ∧ (KJ LWJ S T ∧ K9 false LWL S T)) (kj_X9_wetness (L := LWJ) (by decide) (by decide) (mn_X9_wetness (Q := fun r T => IV T ∧ Gr S T ∧ (FRI [(9, 9)] [] S T) ∧ K2 S T ∧ ((NFq 9 9 c9 v0 T))) hI o_v0 (fun r T h0 h1 h2 h3 h4 => ⟨h0, h1, h2, h3, h4⟩))) (ky_X9_wetness (b := false) (L := LWL) (by decide) (by decide) (fun _ => rfl) (mn_X9_wetness (Q := fun r T => IV T ∧ Gr S T ∧ (FRI [(9, 9)] [] S T) ∧ K2 S T ∧ ((NFq 9 9 c9 v0 T))) hI o_v0 (fun r T h0 h1 h2 h3 h4 => ⟨h0, h1, h2, h3, h4⟩))) (fun r T a b => ⟨a.1, a.2, b.2⟩)) (fun r T a b => ⟨a.1, a.2, b.2⟩)) (mn_X9_wetness (Q := fun r T => IV T ∧ Gr S T ∧ (FRI [(9, 9)] [] S T) ∧ K2 S T ∧ ((NFq 9 9 c9 v0 T))) hI o_v0 (fun r T h0 h1 h2 h3 h4 => ⟨h0, h1, h2, h3, h4⟩)) (fun r T h _ => hq r T h.1.1 h.1.2.1 h.1.2.2.1 h.1.2.2.2.1 h.1.2.2.2.2 h.2)
theorem mz_X9_worst {v0 : Nat} {v1 : Int32} {v2 : Int32} {v3 : Int32} {v4 : Int32} {Q : Int32 → HS → Prop} {S : HS} (hI : IV S) (o_v0 : ob S v0 9)  (hq : ∀ (r : Int32) (T : HS), IV T → Gr S T → FRI [(9, 9)] [] S T → K2 S T → (NFq 9 9 c9 v0 T) → (((K7 S T ∧ K8 S T) ∧ (K9 false LA S T ∧ K9 true LB S T)) ∧ (KJ LWJ S T ∧ K9 false LWL S T)) → Q r T) : P_X9_worst v0 v1 v2 v3 v4 Q S := cm_X9_worst (cm_X9_worst (Q3 := fun r T => (IV T ∧ Gr S T ∧ (FRI [(9, 9)] [] S T) ∧ K2 S T ∧ ((NFq 9 9 c9 v0 T))) ∧ ((K7 S T ∧ K8 S T) ∧ (K9 false LA S T ∧ K9 true LB S T)) ∧ (KJ LWJ S T ∧ K9 false LWL S T)) (cm_X9_worst (Q3 := fun r T => (IV T ∧ Gr S T ∧ (FRI [(9, 9)] [] S T) ∧ K2 S T ∧ ((NFq 9 9 c9 v0 T))) ∧ (K7 S T ∧ K8 S T) ∧ (K9 false LA S T ∧ K9 true LB S T)) (cm_X9_worst (Q3 := fun r T => (IV T ∧ Gr S T ∧ (FRI [(9, 9)] [] S T) ∧ K2 S T ∧ ((NFq 9 9 c9 v0 T))) ∧ K7 S T ∧ K8 S T) (kw_X9_worst (mn_X9_worst (Q := fun r T => IV T ∧ Gr S T ∧ (FRI [(9, 9)] [] S T) ∧ K2 S T ∧ ((NFq 9 9 c9 v0 T))) hI o_v0 (fun r T h0 h1 h2 h3 h4 => ⟨h0, h1, h2, h3, h4⟩))) (kx_X9_worst (mn_X9_worst (Q := fun r T => IV T ∧ Gr S T ∧ (FRI [(9, 9)] [] S T) ∧ K2 S T ∧ ((NFq 9 9 c9 v0 T))) hI o_v0 (fun r T h0 h1 h2 h3 h4 => ⟨h0, h1, h2, h3, h4⟩))) (fun r T a b => ⟨a.1, a.2, b.2⟩)) (cm_X9_worst (Q3 := fun r T => (IV T ∧ Gr S T ∧ (FRI [(9, 9)] [] S T) ∧ K2 S T ∧ ((NFq 9 9 c9 v0 T))) ∧ (K9 false LA S T ∧ K9 true LB S T)) (ky_X9_worst (b := false) (L := LA) (by decide) (by decide) (fun _ => rfl) (mn_X9_worst (Q := fun r T => IV T ∧ Gr S T ∧ (FRI [(9, 9)] [] S T) ∧ K2 S T ∧ ((NFq 9 9 c9 v0 T))) hI o_v0 (fun r T h0 h1 h2 h3 h4 => ⟨h0, h1, h2, h3, h4⟩))) (ky_X9_worst (b := true) (L := LB) (by decide) (by decide) (fun z => z.elim) (mn_X9_worst (Q := fun r T => IV T ∧ Gr S T ∧ (FRI [(9, 9)] [] S T) ∧ K2 S T ∧ ((NFq 9 9 c9 v0 T))) hI o_v0 (fun r T h0 h1 h2 h3 h4 => ⟨h0, h1, h2, h3, h4⟩))) (fun r T a b => ⟨a.1, a.2, b.2⟩)) (fun r T a b => ⟨a.1, a.2, b.2⟩)) (cm_X9_worst (Q3 := fun r T => (IV T ∧ Gr S T ∧ (FRI [(9, 9)] [] S T) ∧ K2 S T ∧ ((NFq 9 9 c9 v0 T))) ∧ (KJ LWJ S T ∧ K9 false LWL S T)) (kj_X9_worst (L := LWJ) (by decide) (by decide) (mn_X9_worst (Q := fun r T => IV T ∧ Gr S T ∧ (FRI [(9, 9)] [] S T) ∧ K2 S T ∧ ((NFq 9 9 c9 v0 T))) hI o_v0 (fun r T h0 h1 h2 h3 h4 => ⟨h0, h1, h2, h3, h4⟩))) (ky_X9_worst (b := false) (L := LWL) (by decide) (by decide) (fun _ => rfl) (mn_X9_worst (Q := fun r T => IV T ∧ Gr S T ∧ (FRI [(9, 9)] [] S T) ∧ K2 S T ∧ ((NFq 9 9 c9 v0 T))) hI o_v0 (fun r T h0 h1 h2 h3 h4 => ⟨h0, h1, h2, h3, h4⟩))) (fun r T a b => ⟨a.1, a.2, b.2⟩)) (fun r T a b => ⟨a.1, a.2, b.2⟩)) (mn_X9_worst (Q := fun r T => IV T ∧ Gr S T ∧ (FRI [(9, 9)] [] S T) ∧ K2 S T ∧ ((NFq 9 9 c9 v0 T))) hI o_v0 (fun r T h0 h1 h2 h3 h4 => ⟨h0, h1, h2, h3, h4⟩)) (fun r T h _ => hq r T h.1.1 h.1.2.1 h.1.2.2.1 h.1.2.2.2.1 h.1.2.2.2.2 h.2)
theorem my_X9_world {v0 : Nat} {v1 : Int32} {Q : Int32 → HS → Prop} {S : HS} (hI : IV S) (o_v0 : ob S v0 9) {f : Nat → Int32} {t a : Nat} (P : TP 0 1 f t a v0 S) (ht : t ≤ 900) {rr w1 w2 dy wy : Nat} (J : CJ v0 rr w1 w2 S) (od : ob S dy 0) (ow : ob S wy 7) (hq : ∀ (r : Int32) (T : HS), IV T → Gr S T → FRI [(0, 0), (0, 2), (0, 3), (3, 0), (3, 1), (3, 2), (3, 3), (3, 4), (4, 0), (4, 1), (4, 3), (4, 4), (4, 6), (4, 7), (4, 9), (4, 10), (5, 0), (5, 1), (5, 2), (5, 3), (5, 4), (6, 0), (6, 1), (6, 2), (6, 3), (6, 4), (6, 5), (6, 6), (7, 10), (8, 0), (8, 1), (8, 2), (8, 3), (8, 4), (8, 5), (9, 1), (9, 7), (9, 8), (9, 9)] [(4, 2), (4, 5), (9, 2)] S T → ((v1 < 0 ∨ fI S v0 1 < v1 → fI T v0 1 = fI S v0 1) ∧ (0 ≤ v1 ∧ v1 ≤ fI S v0 1 → fI T v0 1 = 0)) → K2 S T → (WCd S f t v1 v0 r T) → ((WCe v0 rr w1 w2 S (RWo f t v1) T ∧ K8 S T) ∧ DwC v0 dy S r T ∧ (K9 false LA S T ∧ K9 true LB S T) ∧ DyW v0 wy S r T ∧ (KJ LWJ S T ∧ K9 false LWL S T)) → Q r T) : P_X9_world v0 v1 Q S := cm_X9_world (cm_X9_world (Q3 := fun r T => (IV T ∧ Gr S T ∧ (FRI [(0, 0), (0, 2), (0, 3), (3, 0), (3, 1), (3, 2), (3, 3), (3, 4), (4, 0), (4, 1), (4, 3), (4, 4), (4, 6), (4, 7), (4, 9), (4, 10), (5, 0), (5, 1), (5, 2), (5, 3), (5, 4), (6, 0), (6, 1), (6, 2), (6, 3), (6, 4), (6, 5), (6, 6), (7, 10), (8, 0), (8, 1), (8, 2), (8, 3), (8, 4), (8, 5), (9, 1), (9, 7), (9, 8), (9, 9)] [(4, 2), (4, 5), (9, 2)] S T) ∧ (((v1 < 0 ∨ fI S v0 1 < v1 → fI T v0 1 = fI S v0 1) ∧ (0 ≤ v1 ∧ v1 ≤ fI S v0 1 → fI T v0 1 = 0))) ∧ K2 S T ∧ ((WCd S f t v1 v0 r T))) ∧ (WCe v0 rr w1 w2 S (RWo f t v1) T ∧ K8 S T) ∧ DwC v0 dy S r T ∧ (K9 false LA S T ∧ K9 true LB S T) ∧ DyW v0 wy S r T ∧ (KJ LWJ S T ∧ K9 false LWL S T)) (cm_X9_world (Q3 := fun r T => (IV T ∧ Gr S T ∧ (FRI [(0, 0), (0, 2), (0, 3), (3, 0), (3, 1), (3, 2), (3, 3), (3, 4), (4, 0), (4, 1), (4, 3), (4, 4), (4, 6), (4, 7), (4, 9), (4, 10), (5, 0), (5, 1), (5, 2), (5, 3), (5, 4), (6, 0), (6, 1), (6, 2), (6, 3), (6, 4), (6, 5), (6, 6), (7, 10), (8, 0), (8, 1), (8, 2), (8, 3), (8, 4), (8, 5), (9, 1), (9, 7), (9, 8), (9, 9)] [(4, 2), (4, 5), (9, 2)] S T) ∧ (((v1 < 0 ∨ fI S v0 1 < v1 → fI T v0 1 = fI S v0 1) ∧ (0 ≤ v1 ∧ v1 ≤ fI S v0 1 → fI T v0 1 = 0))) ∧ K2 S T ∧ ((WCd S f t v1 v0 r T))) ∧ (WCe v0 rr w1 w2 S (RWo f t v1) T ∧ K8 S T)) (ry_X9_world hI P ht J (ml_X9_world (Q := fun r T => IV T ∧ Gr S T ∧ (FRI [(0, 0), (0, 2), (0, 3), (3, 0), (3, 1), (3, 2), (3, 3), (3, 4), (4, 0), (4, 1), (4, 3), (4, 4), (4, 6), (4, 7), (4, 9), (4, 10), (5, 0), (5, 1), (5, 2), (5, 3), (5, 4), (6, 0), (6, 1), (6, 2), (6, 3), (6, 4), (6, 5), (6, 6), (7, 10), (8, 0), (8, 1), (8, 2), (8, 3), (8, 4), (8, 5), (9, 1), (9, 7), (9, 8), (9, 9)] [(4, 2), (4, 5), (9, 2)] S T) ∧ (((v1 < 0 ∨ fI S v0 1 < v1 → fI T v0 1 = fI S v0 1) ∧ (0 ≤ v1 ∧ v1 ≤ fI S v0 1 → fI T v0 1 = 0))) ∧ K2 S T ∧ ((WCd S f t v1 v0 r T))) hI o_v0 P ht (fun r T h0 h1 h2 h3 h4 h5 => ⟨h0, h1, h2, h3, h4, h5⟩))) (kx_X9_world (ml_X9_world (Q := fun r T => IV T ∧ Gr S T ∧ (FRI [(0, 0), (0, 2), (0, 3), (3, 0), (3, 1), (3, 2), (3, 3), (3, 4), (4, 0), (4, 1), (4, 3), (4, 4), (4, 6), (4, 7), (4, 9), (4, 10), (5, 0), (5, 1), (5, 2), (5, 3), (5, 4), (6, 0), (6, 1), (6, 2), (6, 3), (6, 4), (6, 5), (6, 6), (7, 10), (8, 0), (8, 1), (8, 2), (8, 3), (8, 4), (8, 5), (9, 1), (9, 7), (9, 8), (9, 9)] [(4, 2), (4, 5), (9, 2)] S T) ∧ (((v1 < 0 ∨ fI S v0 1 < v1 → fI T v0 1 = fI S v0 1) ∧ (0 ≤ v1 ∧ v1 ≤ fI S v0 1 → fI T v0 1 = 0))) ∧ K2 S T ∧ ((WCd S f t v1 v0 r T))) hI o_v0 P ht (fun r T h0 h1 h2 h3 h4 h5 => ⟨h0, h1, h2, h3, h4, h5⟩))) (fun r T a b => ⟨a.1, a.2, b.2⟩)) (cm_X9_world (Q3 := fun r T => (IV T ∧ Gr S T ∧ (FRI [(0, 0), (0, 2), (0, 3), (3, 0), (3, 1), (3, 2), (3, 3), (3, 4), (4, 0), (4, 1), (4, 3), (4, 4), (4, 6), (4, 7), (4, 9), (4, 10), (5, 0), (5, 1), (5, 2), (5, 3), (5, 4), (6, 0), (6, 1), (6, 2), (6, 3), (6, 4), (6, 5), (6, 6), (7, 10), (8, 0), (8, 1), (8, 2), (8, 3), (8, 4), (8, 5), (9, 1), (9, 7), (9, 8), (9, 9)] [(4, 2), (4, 5), (9, 2)] S T) ∧ (((v1 < 0 ∨ fI S v0 1 < v1 → fI T v0 1 = fI S v0 1) ∧ (0 ≤ v1 ∧ v1 ≤ fI S v0 1 → fI T v0 1 = 0))) ∧ K2 S T ∧ ((WCd S f t v1 v0 r T))) ∧ (DwC v0 dy S r T ∧ (K9 false LA S T ∧ K9 true LB S T) ∧ DyW v0 wy S r T ∧ (KJ LWJ S T ∧ K9 false LWL S T))) (cm_X9_world (Q3 := fun r T => (IV T ∧ Gr S T ∧ (FRI [(0, 0), (0, 2), (0, 3), (3, 0), (3, 1), (3, 2), (3, 3), (3, 4), (4, 0), (4, 1), (4, 3), (4, 4), (4, 6), (4, 7), (4, 9), (4, 10), (5, 0), (5, 1), (5, 2), (5, 3), (5, 4), (6, 0), (6, 1), (6, 2), (6, 3), (6, 4), (6, 5), (6, 6), (7, 10), (8, 0), (8, 1), (8, 2), (8, 3), (8, 4), (8, 5), (9, 1), (9, 7), (9, 8), (9, 9)] [(4, 2), (4, 5), (9, 2)] S T) ∧ (((v1 < 0 ∨ fI S v0 1 < v1 → fI T v0 1 = fI S v0 1) ∧ (0 ≤ v1 ∧ v1 ≤ fI S v0 1 → fI T v0 1 = 0))) ∧ K2 S T ∧ ((WCd S f t v1 v0 r T))) ∧ (DwC v0 dy S r T ∧ (K9 false LA S T ∧ K9 true LB S T))) (dw_X9_world J.2.2.2.1 od (ml_X9_world (Q := fun r T => IV T ∧ Gr S T ∧ (FRI [(0, 0), (0, 2), (0, 3), (3, 0), (3, 1), (3, 2), (3, 3), (3, 4), (4, 0), (4, 1), (4, 3), (4, 4), (4, 6), (4, 7), (4, 9), (4, 10), (5, 0), (5, 1), (5, 2), (5, 3), (5, 4), (6, 0), (6, 1), (6, 2), (6, 3), (6, 4), (6, 5), (6, 6), (7, 10), (8, 0), (8, 1), (8, 2), (8, 3), (8, 4), (8, 5), (9, 1), (9, 7), (9, 8), (9, 9)] [(4, 2), (4, 5), (9, 2)] S T) ∧ (((v1 < 0 ∨ fI S v0 1 < v1 → fI T v0 1 = fI S v0 1) ∧ (0 ≤ v1 ∧ v1 ≤ fI S v0 1 → fI T v0 1 = 0))) ∧ K2 S T ∧ ((WCd S f t v1 v0 r T))) hI o_v0 P ht (fun r T h0 h1 h2 h3 h4 h5 => ⟨h0, h1, h2, h3, h4, h5⟩))) (cm_X9_world (Q3 := fun r T => (IV T ∧ Gr S T ∧ (FRI [(0, 0), (0, 2), (0, 3), (3, 0), (3, 1), (3, 2), (3, 3), (3, 4), (4, 0), (4, 1), (4, 3), (4, 4), (4, 6), (4, 7), (4, 9), (4, 10), (5, 0), (5, 1), (5, 2), (5, 3), (5, 4), (6, 0), (6, 1), (6, 2), (6, 3), (6, 4), (6, 5), (6, 6), (7, 10), (8, 0), (8, 1), (8, 2), (8, 3), (8, 4), (8, 5), (9, 1), (9, 7), (9, 8), (9, 9)] [(4, 2), (4, 5), (9, 2)] S T) ∧ (((v1 < 0 ∨ fI S v0 1 < v1 → fI T v0 1 = fI S v0 1) ∧ (0 ≤ v1 ∧ v1 ≤ fI S v0 1 → fI T v0 1 = 0))) ∧ K2 S T ∧ ((WCd S f t v1 v0 r T))) ∧ (K9 false LA S T ∧ K9 true LB S T)) (ky_X9_world (b := false) (L := LA) (by decide) (by decide) (fun _ => rfl) (ml_X9_world (Q := fun r T => IV T ∧ Gr S T ∧ (FRI [(0, 0), (0, 2), (0, 3), (3, 0), (3, 1), (3, 2), (3, 3), (3, 4), (4, 0), (4, 1), (4, 3), (4, 4), (4, 6), (4, 7), (4, 9), (4, 10), (5, 0), (5, 1), (5, 2), (5, 3), (5, 4), (6, 0), (6, 1), (6, 2), (6, 3), (6, 4), (6, 5), (6, 6), (7, 10), (8, 0), (8, 1), (8, 2), (8, 3), (8, 4), (8, 5), (9, 1), (9, 7), (9, 8), (9, 9)] [(4, 2), (4, 5), (9, 2)] S T) ∧ (((v1 < 0 ∨ fI S v0 1 < v1 → fI T v0 1 = fI S v0 1) ∧ (0 ≤ v1 ∧ v1 ≤ fI S v0 1 → fI T v0 1 = 0))) ∧ K2 S T ∧ ((WCd S f t v1 v0 r T))) hI o_v0 P ht (fun r T h0 h1 h2 h3 h4 h5 => ⟨h0, h1, h2, h3, h4, h5⟩))) (ky_X9_world (b := true) (L := LB) (by decide) (by decide) (fun z => z.elim) (ml_X9_world (Q := fun r T => IV T ∧ Gr S T ∧ (FRI [(0, 0), (0, 2), (0, 3), (3, 0), (3, 1), (3, 2), (3, 3), (3, 4), (4, 0), (4, 1), (4, 3), (4, 4), (4, 6), (4, 7), (4, 9), (4, 10), (5, 0), (5, 1), (5, 2), (5, 3), (5, 4), (6, 0), (6, 1), (6, 2), (6, 3), (6, 4), (6, 5), (6, 6), (7, 10), (8, 0), (8, 1), (8, 2), (8, 3), (8, 4), (8, 5), (9, 1), (9, 7), (9, 8), (9, 9)] [(4, 2), (4, 5), (9, 2)] S T) ∧ (((v1 < 0 ∨ fI S v0 1 < v1 → fI T v0 1 = fI S v0 1) ∧ (0 ≤ v1 ∧ v1 ≤ fI S v0 1 → fI T v0 1 = 0))) ∧ K2 S T ∧ ((WCd S f t v1 v0 r T))) hI o_v0 P ht (fun r T h0 h1 h2 h3 h4 h5 => ⟨h0, h1, h2, h3, h4, h5⟩))) (fun r T a b => ⟨a.1, a.2, b.2⟩)) (fun r T a b => ⟨a.1, a.2, b.2⟩)) (cm_X9_world (Q3 := fun r T => (IV T ∧ Gr S T ∧ (FRI [(0, 0), (0, 2), (0, 3), (3, 0), (3, 1), (3, 2), (3, 3), (3, 4), (4, 0), (4, 1), (4, 3), (4, 4), (4, 6), (4, 7), (4, 9), (4, 10), (5, 0), (5, 1), (5, 2), (5, 3), (5, 4), (6, 0), (6, 1), (6, 2), (6, 3), (6, 4), (6, 5), (6, 6), (7, 10), (8, 0), (8, 1), (8, 2), (8, 3), (8, 4), (8, 5), (9, 1), (9, 7), (9, 8), (9, 9)] [(4, 2), (4, 5), (9, 2)] S T) ∧ (((v1 < 0 ∨ fI S v0 1 < v1 → fI T v0 1 = fI S v0 1) ∧ (0 ≤ v1 ∧ v1 ≤ fI S v0 1 → fI T v0 1 = 0))) ∧ K2 S T ∧ ((WCd S f t v1 v0 r T))) ∧ (DyW v0 wy S r T ∧ (KJ LWJ S T ∧ K9 false LWL S T))) (dy_X9_world hI J.2.2.2.1 ow (ml_X9_world (Q := fun r T => IV T ∧ Gr S T ∧ (FRI [(0, 0), (0, 2), (0, 3), (3, 0), (3, 1), (3, 2), (3, 3), (3, 4), (4, 0), (4, 1), (4, 3), (4, 4), (4, 6), (4, 7), (4, 9), (4, 10), (5, 0), (5, 1), (5, 2), (5, 3), (5, 4), (6, 0), (6, 1), (6, 2), (6, 3), (6, 4), (6, 5), (6, 6), (7, 10), (8, 0), (8, 1), (8, 2), (8, 3), (8, 4), (8, 5), (9, 1), (9, 7), (9, 8), (9, 9)] [(4, 2), (4, 5), (9, 2)] S T) ∧ (((v1 < 0 ∨ fI S v0 1 < v1 → fI T v0 1 = fI S v0 1) ∧ (0 ≤ v1 ∧ v1 ≤ fI S v0 1 → fI T v0 1 = 0))) ∧ K2 S T ∧ ((WCd S f t v1 v0 r T))) hI o_v0 P ht (fun r T h0 h1 h2 h3 h4 h5 => ⟨h0, h1, h2, h3, h4, h5⟩))) (cm_X9_world (Q3 := fun r T => (IV T ∧ Gr S T ∧ (FRI [(0, 0), (0, 2), (0, 3), (3, 0), (3, 1), (3, 2), (3, 3), (3, 4), (4, 0), (4, 1), (4, 3), (4, 4), (4, 6), (4, 7), (4, 9), (4, 10), (5, 0), (5, 1), (5, 2), (5, 3), (5, 4), (6, 0), (6, 1), (6, 2), (6, 3), (6, 4), (6, 5), (6, 6), (7, 10), (8, 0), (8, 1), (8, 2), (8, 3), (8, 4), (8, 5), (9, 1), (9, 7), (9, 8), (9, 9)] [(4, 2), (4, 5), (9, 2)] S T) ∧ (((v1 < 0 ∨ fI S v0 1 < v1 → fI T v0 1 = fI S v0 1) ∧ (0 ≤ v1 ∧ v1 ≤ fI S v0 1 → fI T v0 1 = 0))) ∧ K2 S T ∧ ((WCd S f t v1 v0 r T))) ∧ (KJ LWJ S T ∧ K9 false LWL S T)) (kj_X9_world (L := LWJ) (by decide) (by decide) (ml_X9_world (Q := fun r T => IV T ∧ Gr S T ∧ (FRI [(0, 0), (0, 2), (0, 3), (3, 0), (3, 1), (3, 2), (3, 3), (3, 4), (4, 0), (4, 1), (4, 3), (4, 4), (4, 6), (4, 7), (4, 9), (4, 10), (5, 0), (5, 1), (5, 2), (5, 3), (5, 4), (6, 0), (6, 1), (6, 2), (6, 3), (6, 4), (6, 5), (6, 6), (7, 10), (8, 0), (8, 1), (8, 2), (8, 3), (8, 4), (8, 5), (9, 1), (9, 7), (9, 8), (9, 9)] [(4, 2), (4, 5), (9, 2)] S T) ∧ (((v1 < 0 ∨ fI S v0 1 < v1 → fI T v0 1 = fI S v0 1) ∧ (0 ≤ v1 ∧ v1 ≤ fI S v0 1 → fI T v0 1 = 0))) ∧ K2 S T ∧ ((WCd S f t v1 v0 r T))) hI o_v0 P ht (fun r T h0 h1 h2 h3 h4 h5 => ⟨h0, h1, h2, h3, h4, h5⟩))) (ky_X9_world (b := false) (L := LWL) (by decide) (by decide) (fun _ => rfl) (ml_X9_world (Q := fun r T => IV T ∧ Gr S T ∧ (FRI [(0, 0), (0, 2), (0, 3), (3, 0), (3, 1), (3, 2), (3, 3), (3, 4), (4, 0), (4, 1), (4, 3), (4, 4), (4, 6), (4, 7), (4, 9), (4, 10), (5, 0), (5, 1), (5, 2), (5, 3), (5, 4), (6, 0), (6, 1), (6, 2), (6, 3), (6, 4), (6, 5), (6, 6), (7, 10), (8, 0), (8, 1), (8, 2), (8, 3), (8, 4), (8, 5), (9, 1), (9, 7), (9, 8), (9, 9)] [(4, 2), (4, 5), (9, 2)] S T) ∧ (((v1 < 0 ∨ fI S v0 1 < v1 → fI T v0 1 = fI S v0 1) ∧ (0 ≤ v1 ∧ v1 ≤ fI S v0 1 → fI T v0 1 = 0))) ∧ K2 S T ∧ ((WCd S f t v1 v0 r T))) hI o_v0 P ht (fun r T h0 h1 h2 h3 h4 h5 => ⟨h0, h1, h2, h3, h4, h5⟩))) (fun r T a b => ⟨a.1, a.2, b.2⟩)) (fun r T a b => ⟨a.1, a.2, b.2⟩)) (fun r T a b => ⟨a.1, a.2.1, a.2.2, b.2⟩)) (fun r T a b => ⟨a.1, a.2, b.2⟩)) (ml_X9_world (Q := fun r T => IV T ∧ Gr S T ∧ (FRI [(0, 0), (0, 2), (0, 3), (3, 0), (3, 1), (3, 2), (3, 3), (3, 4), (4, 0), (4, 1), (4, 3), (4, 4), (4, 6), (4, 7), (4, 9), (4, 10), (5, 0), (5, 1), (5, 2), (5, 3), (5, 4), (6, 0), (6, 1), (6, 2), (6, 3), (6, 4), (6, 5), (6, 6), (7, 10), (8, 0), (8, 1), (8, 2), (8, 3), (8, 4), (8, 5), (9, 1), (9, 7), (9, 8), (9, 9)] [(4, 2), (4, 5), (9, 2)] S T) ∧ (((v1 < 0 ∨ fI S v0 1 < v1 → fI T v0 1 = fI S v0 1) ∧ (0 ≤ v1 ∧ v1 ≤ fI S v0 1 → fI T v0 1 = 0))) ∧ K2 S T ∧ ((WCd S f t v1 v0 r T))) hI o_v0 P ht (fun r T h0 h1 h2 h3 h4 h5 => ⟨h0, h1, h2, h3, h4, h5⟩)) (fun r T h _ => hq r T h.1.1 h.1.2.1 h.1.2.2.1 h.1.2.2.2.1 h.1.2.2.2.2.1 h.1.2.2.2.2.2 h.2)
theorem my_X11_world {v0 : Nat} {v1 : Int32} {Q : Int32 → HS → Prop} {S : HS} (hI : IV S) (o_v0 : ob S v0 11) {f : Nat → Int32} {t a : Nat} (P : TP 5 6 f t a v0 S) (ht : t ≤ 900) (hB : ∀ j, j < t → -128 ≤ (f j).toInt ∧ (f j).toInt ≤ 127)  (hq : ∀ (r : Int32) (T : HS), IV T → Gr S T → FRI [(10, 0), (10, 1), (10, 2), (10, 3), (10, 4), (10, 5), (10, 6), (11, 0), (11, 1), (11, 2), (11, 6), (11, 7), (11, 8), (11, 9), (11, 10), (11, 11), (11, 12), (11, 13), (11, 14), (11, 19), (11, 24), (11, 25)] [(10, 7), (10, 8), (10, 9), (10, 10), (10, 11), (10, 12), (10, 13), (10, 14), (10, 15), (10, 16), (10, 17), (10, 18), (10, 19), (10, 20), (10, 21), (10, 22), (10, 23), (10, 24), (10, 25), (10, 26), (10, 27), (10, 28), (10, 29), (10, 30), (11, 3), (11, 4)] S T → ((v1 < 0 ∨ fI S v0 6 < v1 → fI T v0 6 = fI S v0 6) ∧ (0 ≤ v1 ∧ v1 ≤ fI S v0 6 → fI T v0 6 = 0)) → K2 S T → (WMd S f t v1 v0 r T) → (WMe v0 S (RWo f t v1) T ∧ DwM v0 S r T ∧ (K9 false LA S T ∧ K9 true LB S T) ∧ (KJ LWJ S T ∧ K9 false LWL S T)) → Q r T) : P_X11_world v0 v1 Q S := cm_X11_world (cm_X11_world (Q3 := fun r T => (IV T ∧ Gr S T ∧ (FRI [(10, 0), (10, 1), (10, 2), (10, 3), (10, 4), (10, 5), (10, 6), (11, 0), (11, 1), (11, 2), (11, 6), (11, 7), (11, 8), (11, 9), (11, 10), (11, 11), (11, 12), (11, 13), (11, 14), (11, 19), (11, 24), (11, 25)] [(10, 7), (10, 8), (10, 9), (10, 10), (10, 11), (10, 12), (10, 13), (10, 14), (10, 15), (10, 16), (10, 17), (10, 18), (10, 19), (10, 20), (10, 21), (10, 22), (10, 23), (10, 24), (10, 25), (10, 26), (10, 27), (10, 28), (10, 29), (10, 30), (11, 3), (11, 4)] S T) ∧ (((v1 < 0 ∨ fI S v0 6 < v1 → fI T v0 6 = fI S v0 6) ∧ (0 ≤ v1 ∧ v1 ≤ fI S v0 6 → fI T v0 6 = 0))) ∧ K2 S T ∧ ((WMd S f t v1 v0 r T))) ∧ WMe v0 S (RWo f t v1) T ∧ DwM v0 S r T ∧ (K9 false LA S T ∧ K9 true LB S T) ∧ (KJ LWJ S T ∧ K9 false LWL S T)) (ry_X11_world P ht hB (ml_X11_world (Q := fun r T => IV T ∧ Gr S T ∧ (FRI [(10, 0), (10, 1), (10, 2), (10, 3), (10, 4), (10, 5), (10, 6), (11, 0), (11, 1), (11, 2), (11, 6), (11, 7), (11, 8), (11, 9), (11, 10), (11, 11), (11, 12), (11, 13), (11, 14), (11, 19), (11, 24), (11, 25)] [(10, 7), (10, 8), (10, 9), (10, 10), (10, 11), (10, 12), (10, 13), (10, 14), (10, 15), (10, 16), (10, 17), (10, 18), (10, 19), (10, 20), (10, 21), (10, 22), (10, 23), (10, 24), (10, 25), (10, 26), (10, 27), (10, 28), (10, 29), (10, 30), (11, 3), (11, 4)] S T) ∧ (((v1 < 0 ∨ fI S v0 6 < v1 → fI T v0 6 = fI S v0 6) ∧ (0 ≤ v1 ∧ v1 ≤ fI S v0 6 → fI T v0 6 = 0))) ∧ K2 S T ∧ ((WMd S f t v1 v0 r T))) hI o_v0 P ht hB (fun r T h0 h1 h2 h3 h4 h5 => ⟨h0, h1, h2, h3, h4, h5⟩))) (cm_X11_world (Q3 := fun r T => (IV T ∧ Gr S T ∧ (FRI [(10, 0), (10, 1), (10, 2), (10, 3), (10, 4), (10, 5), (10, 6), (11, 0), (11, 1), (11, 2), (11, 6), (11, 7), (11, 8), (11, 9), (11, 10), (11, 11), (11, 12), (11, 13), (11, 14), (11, 19), (11, 24), (11, 25)] [(10, 7), (10, 8), (10, 9), (10, 10), (10, 11), (10, 12), (10, 13), (10, 14), (10, 15), (10, 16), (10, 17), (10, 18), (10, 19), (10, 20), (10, 21), (10, 22), (10, 23), (10, 24), (10, 25), (10, 26), (10, 27), (10, 28), (10, 29), (10, 30), (11, 3), (11, 4)] S T) ∧ (((v1 < 0 ∨ fI S v0 6 < v1 → fI T v0 6 = fI S v0 6) ∧ (0 ≤ v1 ∧ v1 ≤ fI S v0 6 → fI T v0 6 = 0))) ∧ K2 S T ∧ ((WMd S f t v1 v0 r T))) ∧ (DwM v0 S r T ∧ (K9 false LA S T ∧ K9 true LB S T) ∧ (KJ LWJ S T ∧ K9 false LWL S T))) (cm_X11_world (Q3 := fun r T => (IV T ∧ Gr S T ∧ (FRI [(10, 0), (10, 1), (10, 2), (10, 3), (10, 4), (10, 5), (10, 6), (11, 0), (11, 1), (11, 2), (11, 6), (11, 7), (11, 8), (11, 9), (11, 10), (11, 11), (11, 12), (11, 13), (11, 14), (11, 19), (11, 24), (11, 25)] [(10, 7), (10, 8), (10, 9), (10, 10), (10, 11), (10, 12), (10, 13), (10, 14), (10, 15), (10, 16), (10, 17), (10, 18), (10, 19), (10, 20), (10, 21), (10, 22), (10, 23), (10, 24), (10, 25), (10, 26), (10, 27), (10, 28), (10, 29), (10, 30), (11, 3), (11, 4)] S T) ∧ (((v1 < 0 ∨ fI S v0 6 < v1 → fI T v0 6 = fI S v0 6) ∧ (0 ≤ v1 ∧ v1 ≤ fI S v0 6 → fI T v0 6 = 0))) ∧ K2 S T ∧ ((WMd S f t v1 v0 r T))) ∧ (DwM v0 S r T ∧ (K9 false LA S T ∧ K9 true LB S T))) (dw_X11_world o_v0 (ml_X11_world (Q := fun r T => IV T ∧ Gr S T ∧ (FRI [(10, 0), (10, 1), (10, 2), (10, 3), (10, 4), (10, 5), (10, 6), (11, 0), (11, 1), (11, 2), (11, 6), (11, 7), (11, 8), (11, 9), (11, 10), (11, 11), (11, 12), (11, 13), (11, 14), (11, 19), (11, 24), (11, 25)] [(10, 7), (10, 8), (10, 9), (10, 10), (10, 11), (10, 12), (10, 13), (10, 14), (10, 15), (10, 16), (10, 17), (10, 18), (10, 19), (10, 20), (10, 21), (10, 22), (10, 23), (10, 24), (10, 25), (10, 26), (10, 27), (10, 28), (10, 29), (10, 30), (11, 3), (11, 4)] S T) ∧ (((v1 < 0 ∨ fI S v0 6 < v1 → fI T v0 6 = fI S v0 6) ∧ (0 ≤ v1 ∧ v1 ≤ fI S v0 6 → fI T v0 6 = 0))) ∧ K2 S T ∧ ((WMd S f t v1 v0 r T))) hI o_v0 P ht hB (fun r T h0 h1 h2 h3 h4 h5 => ⟨h0, h1, h2, h3, h4, h5⟩))) (cm_X11_world (Q3 := fun r T => (IV T ∧ Gr S T ∧ (FRI [(10, 0), (10, 1), (10, 2), (10, 3), (10, 4), (10, 5), (10, 6), (11, 0), (11, 1), (11, 2), (11, 6), (11, 7), (11, 8), (11, 9), (11, 10), (11, 11), (11, 12), (11, 13), (11, 14), (11, 19), (11, 24), (11, 25)] [(10, 7), (10, 8), (10, 9), (10, 10), (10, 11), (10, 12), (10, 13), (10, 14), (10, 15), (10, 16), (10, 17), (10, 18), (10, 19), (10, 20), (10, 21), (10, 22), (10, 23), (10, 24), (10, 25), (10, 26), (10, 27), (10, 28), (10, 29), (10, 30), (11, 3), (11, 4)] S T) ∧ (((v1 < 0 ∨ fI S v0 6 < v1 → fI T v0 6 = fI S v0 6) ∧ (0 ≤ v1 ∧ v1 ≤ fI S v0 6 → fI T v0 6 = 0))) ∧ K2 S T ∧ ((WMd S f t v1 v0 r T))) ∧ (K9 false LA S T ∧ K9 true LB S T)) (ky_X11_world (b := false) (L := LA) (by decide) (by decide) (fun _ => rfl) (ml_X11_world (Q := fun r T => IV T ∧ Gr S T ∧ (FRI [(10, 0), (10, 1), (10, 2), (10, 3), (10, 4), (10, 5), (10, 6), (11, 0), (11, 1), (11, 2), (11, 6), (11, 7), (11, 8), (11, 9), (11, 10), (11, 11), (11, 12), (11, 13), (11, 14), (11, 19), (11, 24), (11, 25)] [(10, 7), (10, 8), (10, 9), (10, 10), (10, 11), (10, 12), (10, 13), (10, 14), (10, 15), (10, 16), (10, 17), (10, 18), (10, 19), (10, 20), (10, 21), (10, 22), (10, 23), (10, 24), (10, 25), (10, 26), (10, 27), (10, 28), (10, 29), (10, 30), (11, 3), (11, 4)] S T) ∧ (((v1 < 0 ∨ fI S v0 6 < v1 → fI T v0 6 = fI S v0 6) ∧ (0 ≤ v1 ∧ v1 ≤ fI S v0 6 → fI T v0 6 = 0))) ∧ K2 S T ∧ ((WMd S f t v1 v0 r T))) hI o_v0 P ht hB (fun r T h0 h1 h2 h3 h4 h5 => ⟨h0, h1, h2, h3, h4, h5⟩))) (ky_X11_world (b := true) (L := LB) (by decide) (by decide) (fun z => z.elim) (ml_X11_world (Q := fun r T => IV T ∧ Gr S T ∧ (FRI [(10, 0), (10, 1), (10, 2), (10, 3), (10, 4), (10, 5), (10, 6), (11, 0), (11, 1), (11, 2), (11, 6), (11, 7), (11, 8), (11, 9), (11, 10), (11, 11), (11, 12), (11, 13), (11, 14), (11, 19), (11, 24), (11, 25)] [(10, 7), (10, 8), (10, 9), (10, 10), (10, 11), (10, 12), (10, 13), (10, 14), (10, 15), (10, 16), (10, 17), (10, 18), (10, 19), (10, 20), (10, 21), (10, 22), (10, 23), (10, 24), (10, 25), (10, 26), (10, 27), (10, 28), (10, 29), (10, 30), (11, 3), (11, 4)] S T) ∧ (((v1 < 0 ∨ fI S v0 6 < v1 → fI T v0 6 = fI S v0 6) ∧ (0 ≤ v1 ∧ v1 ≤ fI S v0 6 → fI T v0 6 = 0))) ∧ K2 S T ∧ ((WMd S f t v1 v0 r T))) hI o_v0 P ht hB (fun r T h0 h1 h2 h3 h4 h5 => ⟨h0, h1, h2, h3, h4, h5⟩))) (fun r T a b => ⟨a.1, a.2, b.2⟩)) (fun r T a b => ⟨a.1, a.2, b.2⟩)) (cm_X11_world (Q3 := fun r T => (IV T ∧ Gr S T ∧ (FRI [(10, 0), (10, 1), (10, 2), (10, 3), (10, 4), (10, 5), (10, 6), (11, 0), (11, 1), (11, 2), (11, 6), (11, 7), (11, 8), (11, 9), (11, 10), (11, 11), (11, 12), (11, 13), (11, 14), (11, 19), (11, 24), (11, 25)] [(10, 7), (10, 8), (10, 9), (10, 10), (10, 11), (10, 12), (10, 13), (10, 14), (10, 15), (10, 16), (10, 17), (10, 18), (10, 19), (10, 20), (10, 21), (10, 22), (10, 23), (10, 24), (10, 25), (10, 26), (10, 27), (10, 28), (10, 29), (10, 30), (11, 3), (11, 4)] S T) ∧ (((v1 < 0 ∨ fI S v0 6 < v1 → fI T v0 6 = fI S v0 6) ∧ (0 ≤ v1 ∧ v1 ≤ fI S v0 6 → fI T v0 6 = 0))) ∧ K2 S T ∧ ((WMd S f t v1 v0 r T))) ∧ (KJ LWJ S T ∧ K9 false LWL S T)) (kj_X11_world (L := LWJ) (by decide) (by decide) (ml_X11_world (Q := fun r T => IV T ∧ Gr S T ∧ (FRI [(10, 0), (10, 1), (10, 2), (10, 3), (10, 4), (10, 5), (10, 6), (11, 0), (11, 1), (11, 2), (11, 6), (11, 7), (11, 8), (11, 9), (11, 10), (11, 11), (11, 12), (11, 13), (11, 14), (11, 19), (11, 24), (11, 25)] [(10, 7), (10, 8), (10, 9), (10, 10), (10, 11), (10, 12), (10, 13), (10, 14), (10, 15), (10, 16), (10, 17), (10, 18), (10, 19), (10, 20), (10, 21), (10, 22), (10, 23), (10, 24), (10, 25), (10, 26), (10, 27), (10, 28), (10, 29), (10, 30), (11, 3), (11, 4)] S T) ∧ (((v1 < 0 ∨ fI S v0 6 < v1 → fI T v0 6 = fI S v0 6) ∧ (0 ≤ v1 ∧ v1 ≤ fI S v0 6 → fI T v0 6 = 0))) ∧ K2 S T ∧ ((WMd S f t v1 v0 r T))) hI o_v0 P ht hB (fun r T h0 h1 h2 h3 h4 h5 => ⟨h0, h1, h2, h3, h4, h5⟩))) (ky_X11_world (b := false) (L := LWL) (by decide) (by decide) (fun _ => rfl) (ml_X11_world (Q := fun r T => IV T ∧ Gr S T ∧ (FRI [(10, 0), (10, 1), (10, 2), (10, 3), (10, 4), (10, 5), (10, 6), (11, 0), (11, 1), (11, 2), (11, 6), (11, 7), (11, 8), (11, 9), (11, 10), (11, 11), (11, 12), (11, 13), (11, 14), (11, 19), (11, 24), (11, 25)] [(10, 7), (10, 8), (10, 9), (10, 10), (10, 11), (10, 12), (10, 13), (10, 14), (10, 15), (10, 16), (10, 17), (10, 18), (10, 19), (10, 20), (10, 21), (10, 22), (10, 23), (10, 24), (10, 25), (10, 26), (10, 27), (10, 28), (10, 29), (10, 30), (11, 3), (11, 4)] S T) ∧ (((v1 < 0 ∨ fI S v0 6 < v1 → fI T v0 6 = fI S v0 6) ∧ (0 ≤ v1 ∧ v1 ≤ fI S v0 6 → fI T v0 6 = 0))) ∧ K2 S T ∧ ((WMd S f t v1 v0 r T))) hI o_v0 P ht hB (fun r T h0 h1 h2 h3 h4 h5 => ⟨h0, h1, h2, h3, h4, h5⟩))) (fun r T a b => ⟨a.1, a.2, b.2⟩)) (fun r T a b => ⟨a.1, a.2.1, a.2.2, b.2⟩)) (fun r T a b => ⟨a.1, a.2, b.2⟩)) (ml_X11_world (Q := fun r T => IV T ∧ Gr S T ∧ (FRI [(10, 0), (10, 1), (10, 2), (10, 3), (10, 4), (10, 5), (10, 6), (11, 0), (11, 1), (11, 2), (11, 6), (11, 7), (11, 8), (11, 9), (11, 10), (11, 11), (11, 12), (11, 13), (11, 14), (11, 19), (11, 24), (11, 25)] [(10, 7), (10, 8), (10, 9), (10, 10), (10, 11), (10, 12), (10, 13), (10, 14), (10, 15), (10, 16), (10, 17), (10, 18), (10, 19), (10, 20), (10, 21), (10, 22), (10, 23), (10, 24), (10, 25), (10, 26), (10, 27), (10, 28), (10, 29), (10, 30), (11, 3), (11, 4)] S T) ∧ (((v1 < 0 ∨ fI S v0 6 < v1 → fI T v0 6 = fI S v0 6) ∧ (0 ≤ v1 ∧ v1 ≤ fI S v0 6 → fI T v0 6 = 0))) ∧ K2 S T ∧ ((WMd S f t v1 v0 r T))) hI o_v0 P ht hB (fun r T h0 h1 h2 h3 h4 h5 => ⟨h0, h1, h2, h3, h4, h5⟩)) (fun r T h _ => hq r T h.1.1 h.1.2.1 h.1.2.2.1 h.1.2.2.2.1 h.1.2.2.2.2.1 h.1.2.2.2.2.2 h.2)
end
section
/-! THE CLAIM OUT OF ONE WALK OF THE LAW'S BODY. Your part is whole_start (and what it stands on); all else here is the same for every law, but numbers. -/
def R_law : String := "RainWalkLaw"
def lw_P (b : Addr) (xs : List Int32) (args : Array Value) (s : State) : Prop := args = #[.ref b] ∧ s.IntsAt b xs ∧ xs.length ≤ 4096 ∧ (Jvm.Cond.and given_1 narrow_1).before args s = true
def lw_Q (_ : Array Value) (s : State) (o : Outcome) (t : State) : Prop := o = .returned (some (.int 1)) ∧ Framed s o t [] 601024 7293034
def lw_Z (below : List Frame) (a : Array Value) (s : State) : State → Prop := fun t => ∃ o, t.status = .running ∧ Ended t below o ∧ lw_Q a s o t
/-- the law's own end, with 1 on the stack, nothing written that was there before, its room as the claim has it -/
theorem lw_ret {p : Program} {l : Launch} {e : Env} {s : State} {m : MethodId} {below : List Frame} {meth : Method} {c : Code} {b : Nat} (hx : p.tables.exec = Jvm.exec) (hb : c.code = code) (hr : meth.sig.returnType = ret) (hlocks : meth.locks = false) {pc : Nat} {H : Heap} {ls : Array Slot} (hdg : decode code pc = .ok (.ireturn, 1)) : W p l e room_1 s m #[Value.ref b] below meth c H [] 601024 7293034 (lw_Z below #[Value.ref b] s) (F0 m pc ls [.int 1]) := by
  intro T hT X
  obtain ⟨fs, hret, hrun, hended, hW, hframe⟩ := X.leave (v := some (.int 1)) (hlocks := hlocks) (fun h => by rw [hr] at h; cases h)
  have hmeth' : T.vm.method? m = some meth := X.method'
  refine ⟨T.setFrames fs, ?_, .returned (some (.int 1)), hrun, hended, rfl, ⟨_, rfl⟩, hW, hframe⟩
  jvm_step X.here [X.here.top, hx, hb, hdg, hmeth', hr, ret, narrow_b1]
  (try refine ⟨rfl, ?_⟩); (try refine ⟨rfl, ?_⟩)
  first | (intro acts; rw [hret _ acts rfl rfl rfl]) | rw [hret _ _ rfl rfl rfl]
  exact Steps.refl _
/-- what holds at the law's entry: the machine, the code, the tables' words (any of lw_tbl by 'hts w (by decide +kernel)'), the script of L ints xs at the cell b, what the Statement gives of the start (any of its parts by flat_of_before) -/
def lw_At (p : Program) (s : State) (m : MethodId) (meth : Method) (c : Code) (b L : Nat) (xs : Nat → Int32) : Prop :=
  p.tables.exec = Jvm.exec ∧ c.code = code ∧ meth.sig.returnType = ret ∧ c.maxLocals = 7 ∧ s.vm.findClass R_law = some m.cls ∧ (∀ w ∈ lw_tbl, w.before #[Value.ref b] s = true) ∧ va_X b L xs s s.heap ∧ b < s.heap.size ∧ meth.locks = false ∧ (Jvm.Cond.and given_1 narrow_1).before #[Value.ref b] s = true
end
section
abbrev rm_L_law : Room := room_1
/-- led of the law: it answers, or catches what the class throws; the day and all else stay -/
def P_L_led (v0 : Nat) (v1 : Int32) (v2 : Nat) (Q : Int32 → HS → Prop) (S : HS) : Prop := IV S ∧ ob S v0 9 ∧ ob S v2 14 ∧ hN S v2 = 1 ∧ ∃ (n9 : Nat) (g9 : Nat → Nat → Int32) (pl9 : Int32) (on9 : Prop), LDf v0 n9 g9 pl9 on9 S ∧ ∀ (r : Int32) (T : HS), IV T → Gr S T → FRI [] [] S T → K2 S T → K7 S T → K8 S T → LDx v2 S T → LDr (dc on9 (ldP n9 g9 pl9 v1 13 0 0) none) r v2 T → Q r T
/-- what is still open: the call of led out of the law -/
def LD (X : CX) : Prop := ∀ (k n pc : Nat) (lv : List (Nat × Value)) (rest : List Value) (S : HS) (v0 : Nat) (v1 : Int32) (v2 i : Nat) (Q : Int32 → HS → Prop), k + 2 ≤ rm_L_law.cells → n + 32 ≤ rm_L_law.slots → decode cL_law pc = .ok (.invokestatic i, 3) → Cond.methodLink RL i yL_led ∈ G → (rest.map fun v => v.category).sum ≤ 8 → P_L_led v0 v1 v2 Q S → (∀ (r : Int32) (T : HS), Q r T → Gr S T → WS X 7 (k + 2) (n + 32) (pc + 3) lv (.int r :: rest) T) → WS X 7 k n pc lv (.ref v2 :: .int v1 :: .ref v0 :: rest) S
def LE (X : CX) (scb scL : Nat) (scx : Nat → Int32) (_ : Int32 → HS → Prop) : Prop := xQ X = lw_Z (xb X) (xa X) (xs X) ∧ xa X = #[Value.ref scb] ∧ (xh X).sig.returnType = ret ∧ (xh X).locks = false ∧ va_X scb scL scx (xs X) (xs X).heap ∧ scb < (xs X).heap.size ∧ ¬ xA X scb ∧ (∀ q, xA X q → (xs X).heap.size ≤ q)
section LawRows
variable {X : CX} {nL k n pc scb scL : Nat} {scx : Nat → Int32} {lv : List (Nat × Value)} {st : List Value} {S : HS} {Q : Int32 → HS → Prop}
theorem r_scLen (C : Cx X cL_law RL 7 rm_L_law) (E : LE X scb scL scx Q) (hd : decode cL_law pc = .ok (.arraylength, 1)) (h : WS X 7 k n (pc + 1) lv (.int (nI scL) :: st) S) : WS X 7 k n pc lv (.ref scb :: st) S := fun H locs ls hP hD hS hG hv => va_slen C.1 C.2.1 E.2.2.2.2.1 E.2.2.2.2.2.1 E.2.2.2.2.2.2.1 hS hd (h H locs ls hP hD hS hG hv)
theorem r_scLd (C : Cx X cL_law RL 7 rm_L_law) (E : LE X scb scL scx Q) {i : Int32} (hi : vp_in i scL) (hd : decode cL_law pc = .ok (.iaload, 1)) (h : WS X 7 k n (pc + 1) lv (.int (scx i.toNatClampNeg) :: st) S) : WS X 7 k n pc lv (.int i :: .ref scb :: st) S := fun H locs ls hP hD hS hG hv => va_sld C.1 C.2.1 E.2.2.2.2.1 E.2.2.2.2.2.1 E.2.2.2.2.2.2.1 hS hi hd (h H locs ls hP hD hS hG hv)
theorem r_lawret (C : Cx X cL_law RL 7 rm_L_law) (E : LE X scb scL scx Q) {v : Int32} (hd : decode cL_law pc = .ok (.ireturn, 1)) (h1 : k ≤ rm_L_law.cells) (h2 : n ≤ rm_L_law.slots) (he : v = 1) : WS X 7 k n pc lv [.int v] S := fun H locs ls hP hD hS hG hv => by
  subst he
  obtain ⟨e1, e2, e3, e4, -, -, -, e8⟩ := E
  rw [e1, e2, C.2.2.2.2.2.2.2]
  refine va_forget (fun q hq => e8 _ (hS.2.2 q hq)) ?_
  refine W.widen h1 h2 ?_
  exact lw_ret C.1 C.2.1 e3 e4 hd
end LawRows
theorem nc_L_16 : NC RL 16 11 26 := ⟨_, _, tyX11, rfl, by decide, g_1157, g_1158, g_11, tyX11_ok, by decide +kernel⟩
theorem nc_L_8 : NC RL 8 9 10 := ⟨_, _, tyX9, rfl, by decide, g_22, g_23, g_1, tyX9_ok, by decide +kernel⟩
theorem yI_X11_init : YI yX11_init cX11_init 1 0 := ⟨g_1160, g_11, g_1161, rfl, by decide, by decide, by decide +kernel⟩
theorem yI_X9_init : YI yX9_init cX9_init 1 0 := ⟨g_25, g_1, g_26, rfl, by decide, by decide, by decide +kernel⟩
theorem yV_X11_air : YV yX11_air cX11_air 4 (some .int) 11 3 := ⟨⟨_, rfl, rfl⟩, by decide, g_1612, g_1613, g_11, g_1614, by decide, by decide, by decide +kernel⟩
theorem yV_X11_back : YV yX11_back cX11_back 3 (some .boolean) 11 1 := ⟨⟨_, rfl, rfl⟩, by decide, g_1833, g_1834, g_11, g_1835, by decide, by decide, by decide +kernel⟩
theorem yV_X11_best : YV yX11_best cX11_best 5 (some .int) 11 4 := ⟨⟨_, rfl, rfl⟩, by decide, g_1624, g_1625, g_11, g_1626, by decide, by decide, by decide +kernel⟩
theorem yV_X11_day : YV yX11_day cX11_day 7 (some .int) 11 4 := ⟨⟨_, rfl, rfl⟩, by decide, g_1768, g_1769, g_11, g_1770, by decide, by decide, by decide +kernel⟩
theorem yV_X11_driest : YV yX11_driest cX11_driest 10 (some .int) 11 3 := ⟨⟨_, rfl, rfl⟩, by decide, g_1652, g_1653, g_11, g_1654, by decide, by decide, by decide +kernel⟩
theorem yV_X11_even : YV yX11_even cX11_even 7 (some .int) 11 4 := ⟨⟨_, rfl, rfl⟩, by decide, g_1640, g_1641, g_11, g_1642, by decide, by decide, by decide +kernel⟩
theorem yV_X11_face : YV yX11_face cX11_face 9 (some .long) 11 7 := ⟨⟨_, rfl, rfl⟩, by decide, g_1531, g_1532, g_11, g_1533, by decide, by decide, by decide +kernel⟩
theorem yV_X11_fault : YV yX11_fault cX11_fault 1 (some .int) 11 0 := ⟨⟨_, rfl, rfl⟩, by decide, g_1523, g_1524, g_11, g_1525, by decide, by decide, by decide +kernel⟩
theorem yV_X11_feed : YV yX11_feed cX11_feed 8 (some .int) 11 5 := ⟨⟨_, rfl, rfl⟩, by decide, g_1243, g_1244, g_11, g_1245, by decide, by decide, by decide +kernel⟩
theorem yV_X11_first : YV yX11_first cX11_first 12 (some .int) 11 6 := ⟨⟨_, rfl, rfl⟩, by decide, g_1668, g_1669, g_11, g_1670, by decide, by decide, by decide +kernel⟩
theorem yV_X11_fit : YV yX11_fit cX11_fit 4 (some .int) 11 2 := ⟨⟨_, rfl, rfl⟩, by decide, g_1760, g_1761, g_11, g_1762, by decide, by decide, by decide +kernel⟩
theorem yV_X11_fits : YV yX11_fits cX11_fits 2 (some .int) 11 1 := ⟨⟨_, rfl, rfl⟩, by decide, g_1748, g_1749, g_11, g_1750, by decide, by decide, by decide +kernel⟩
theorem yV_X11_go : YV yX11_go cX11_go 6 (some .int) 11 3 := ⟨⟨_, rfl, rfl⟩, by decide, g_1776, g_1777, g_11, g_1778, by decide, by decide, by decide +kernel⟩
theorem yV_X11_got : YV yX11_got cX11_got 3 (some .long) 11 2 := ⟨⟨_, rfl, rfl⟩, by decide, g_1805, g_1806, g_11, g_1807, by decide, by decide, by decide +kernel⟩
theorem yV_X11_held : YV yX11_held cX11_held 7 (some .int) 11 5 := ⟨⟨_, rfl, rfl⟩, by decide, g_1620, g_1621, g_11, g_1622, by decide, by decide, by decide +kernel⟩
theorem yV_X11_least : YV yX11_least cX11_least 8 (some .long) 11 6 := ⟨⟨_, rfl, rfl⟩, by decide, g_1672, g_1673, g_11, g_1674, by decide, by decide, by decide +kernel⟩
theorem yV_X11_led : YV yX11_led cX11_led 4 (some .int) 11 1 := ⟨⟨_, rfl, rfl⟩, by decide, g_1845, g_1846, g_11, g_1847, by decide, by decide, by decide +kernel⟩
theorem yV_X11_lee : YV yX11_lee cX11_lee 9 (some .long) 11 7 := ⟨⟨_, rfl, rfl⟩, by decide, g_1656, g_1657, g_11, g_1658, by decide, by decide, by decide +kernel⟩
theorem yV_X11_lies : YV yX11_lies cX11_lies 3 (some .int) 11 0 := ⟨⟨_, rfl, rfl⟩, by decide, g_1764, g_1765, g_11, g_1766, by decide, by decide, by decide +kernel⟩
theorem yV_X11_mark : YV yX11_mark cX11_mark 2 (some .int) 11 0 := ⟨⟨_, rfl, rfl⟩, by decide, g_1829, g_1830, g_11, g_1831, by decide, by decide, by decide +kernel⟩
theorem yV_X11_mean : YV yX11_mean cX11_mean 8 (some .long) 11 6 := ⟨⟨_, rfl, rfl⟩, by decide, g_1599, g_1600, g_11, g_1601, by decide, by decide, by decide +kernel⟩
theorem yV_X11_minutes : YV yX11_minutes cX11_minutes 4 (some .int) 11 3 := ⟨⟨_, rfl, rfl⟩, by decide, g_1604, g_1605, g_11, g_1606, by decide, by decide, by decide +kernel⟩
theorem yV_X11_off : YV yX11_off cX11_off 7 (some .int) 11 4 := ⟨⟨_, rfl, rfl⟩, by decide, g_1744, g_1745, g_11, g_1746, by decide, by decide, by decide +kernel⟩
theorem yV_X11_road : YV yX11_road cX11_road 3 (some .int) 11 2 := ⟨⟨_, rfl, rfl⟩, by decide, g_1841, g_1842, g_11, g_1843, by decide, by decide, by decide +kernel⟩
theorem yV_X11_round : YV yX11_round cX11_round 5 (some .long) 11 4 := ⟨⟨_, rfl, rfl⟩, by decide, g_1644, g_1645, g_11, g_1646, by decide, by decide, by decide +kernel⟩
theorem yV_X11_saves : YV yX11_saves cX11_saves 6 (some .long) 11 5 := ⟨⟨_, rfl, rfl⟩, by decide, g_1632, g_1633, g_11, g_1634, by decide, by decide, by decide +kernel⟩
theorem yV_X11_size : YV yX11_size cX11_size 2 (some .int) 11 1 := ⟨⟨_, rfl, rfl⟩, by decide, g_1849, g_1850, g_11, g_1851, by decide, by decide, by decide +kernel⟩
theorem yV_X11_soaked : YV yX11_soaked cX11_soaked 1 (some .int) 11 0 := ⟨⟨_, rfl, rfl⟩, by decide, g_1821, g_1822, g_11, g_1823, by decide, by decide, by decide +kernel⟩
theorem yV_X11_stay : YV yX11_stay cX11_stay 4 (some .boolean) 11 1 := ⟨⟨_, rfl, rfl⟩, by decide, g_1792, g_1793, g_11, g_1794, by decide, by decide, by decide +kernel⟩
theorem yV_X11_step : YV yX11_step cX11_step 9 (some .int) 11 6 := ⟨⟨_, rfl, rfl⟩, by decide, g_1740, g_1741, g_11, g_1742, by decide, by decide, by decide +kernel⟩
theorem yV_X11_steps : YV yX11_steps cX11_steps 7 (some .int) 11 5 := ⟨⟨_, rfl, rfl⟩, by decide, g_1732, g_1733, g_11, g_1734, by decide, by decide, by decide +kernel⟩
theorem yV_X11_there : YV yX11_there cX11_there 7 (some .int) 11 5 := ⟨⟨_, rfl, rfl⟩, by decide, g_1728, g_1729, g_11, g_1730, by decide, by decide, by decide +kernel⟩
theorem yV_X11_trouble : YV yX11_trouble cX11_trouble 1 (some .int) 11 0 := ⟨⟨_, rfl, rfl⟩, by decide, g_1853, g_1854, g_11, g_1855, by decide, by decide, by decide +kernel⟩
theorem yV_X11_undo : YV yX11_undo cX11_undo 2 (some .boolean) 11 0 := ⟨⟨_, rfl, rfl⟩, by decide, g_1825, g_1826, g_11, g_1827, by decide, by decide, by decide +kernel⟩
theorem yV_X11_walker : YV yX11_walker cX11_walker 3 (some .int) 11 2 := ⟨⟨_, rfl, rfl⟩, by decide, g_1837, g_1838, g_11, g_1839, by decide, by decide, by decide +kernel⟩
theorem yV_X11_wet : YV yX11_wet cX11_wet 8 (some .long) 11 6 := ⟨⟨_, rfl, rfl⟩, by decide, g_1591, g_1592, g_11, g_1593, by decide, by decide, by decide +kernel⟩
theorem yV_X11_wetness : YV yX11_wetness cX11_wetness 4 (some .long) 11 1 := ⟨⟨_, rfl, rfl⟩, by decide, g_1809, g_1810, g_11, g_1811, by decide, by decide, by decide +kernel⟩
theorem yV_X11_where : YV yX11_where cX11_where 1 (some .int) 11 0 := ⟨⟨_, rfl, rfl⟩, by decide, g_1527, g_1528, g_11, g_1529, by decide, by decide, by decide +kernel⟩
theorem yV_X11_world : YV yX11_world cX11_world 2 (some .int) 11 1 := ⟨⟨_, rfl, rfl⟩, by decide, g_1247, g_1248, g_11, g_1249, by decide, by decide, by decide +kernel⟩
theorem yV_X11_worst : YV yX11_worst cX11_worst 7 (some .int) 11 4 := ⟨⟨_, rfl, rfl⟩, by decide, g_1636, g_1637, g_11, g_1638, by decide, by decide, by decide +kernel⟩
theorem yV_X9_air : YV yX9_air cX9_air 4 (some .int) 9 3 := ⟨⟨_, rfl, rfl⟩, by decide, g_746, g_747, g_1, g_748, by decide, by decide, by decide +kernel⟩
theorem yV_X9_back : YV yX9_back cX9_back 2 (some .boolean) 9 1 := ⟨⟨_, rfl, rfl⟩, by decide, g_1053, g_1054, g_1, g_1055, by decide, by decide, by decide +kernel⟩
theorem yV_X9_best : YV yX9_best cX9_best 5 (some .int) 9 4 := ⟨⟨_, rfl, rfl⟩, by decide, g_757, g_758, g_1, g_759, by decide, by decide, by decide +kernel⟩
theorem yV_X9_day : YV yX9_day cX9_day 5 (some .int) 9 4 := ⟨⟨_, rfl, rfl⟩, by decide, g_963, g_964, g_1, g_965, by decide, by decide, by decide +kernel⟩
theorem yV_X9_driest : YV yX9_driest cX9_driest 11 (some .int) 9 3 := ⟨⟨_, rfl, rfl⟩, by decide, g_793, g_794, g_1, g_795, by decide, by decide, by decide +kernel⟩
theorem yV_X9_even : YV yX9_even cX9_even 9 (some .int) 9 4 := ⟨⟨_, rfl, rfl⟩, by decide, g_785, g_786, g_1, g_787, by decide, by decide, by decide +kernel⟩
theorem yV_X9_face : YV yX9_face cX9_face 9 (some .long) 9 7 := ⟨⟨_, rfl, rfl⟩, by decide, g_650, g_651, g_1, g_652, by decide, by decide, by decide +kernel⟩
theorem yV_X9_fault : YV yX9_fault cX9_fault 1 (some .int) 9 0 := ⟨⟨_, rfl, rfl⟩, by decide, g_642, g_643, g_1, g_644, by decide, by decide, by decide +kernel⟩
theorem yV_X9_feed : YV yX9_feed cX9_feed 6 (some .int) 9 5 := ⟨⟨_, rfl, rfl⟩, by decide, g_419, g_420, g_1, g_421, by decide, by decide, by decide +kernel⟩
theorem yV_X9_first : YV yX9_first cX9_first 11 (some .int) 9 6 := ⟨⟨_, rfl, rfl⟩, by decide, g_810, g_811, g_1, g_812, by decide, by decide, by decide +kernel⟩
theorem yV_X9_fit : YV yX9_fit cX9_fit 4 (some .int) 9 2 := ⟨⟨_, rfl, rfl⟩, by decide, g_950, g_951, g_1, g_952, by decide, by decide, by decide +kernel⟩
theorem yV_X9_fits : YV yX9_fits cX9_fits 2 (some .int) 9 1 := ⟨⟨_, rfl, rfl⟩, by decide, g_926, g_927, g_1, g_928, by decide, by decide, by decide +kernel⟩
theorem yV_X9_go : YV yX9_go cX9_go 8 (some .int) 9 3 := ⟨⟨_, rfl, rfl⟩, by decide, g_978, g_979, g_1, g_980, by decide, by decide, by decide +kernel⟩
theorem yV_X9_got : YV yX9_got cX9_got 3 (some .long) 9 2 := ⟨⟨_, rfl, rfl⟩, by decide, g_1015, g_1016, g_1, g_1017, by decide, by decide, by decide +kernel⟩
theorem yV_X9_held : YV yX9_held cX9_held 6 (some .int) 9 5 := ⟨⟨_, rfl, rfl⟩, by decide, g_751, g_752, g_1, g_753, by decide, by decide, by decide +kernel⟩
theorem yV_X9_least : YV yX9_least cX9_least 7 (some .long) 9 6 := ⟨⟨_, rfl, rfl⟩, by decide, g_814, g_815, g_1, g_816, by decide, by decide, by decide +kernel⟩
theorem yV_X9_lee : YV yX9_lee cX9_lee 8 (some .long) 9 7 := ⟨⟨_, rfl, rfl⟩, by decide, g_798, g_799, g_1, g_800, by decide, by decide, by decide +kernel⟩
theorem yV_X9_lies : YV yX9_lies cX9_lies 3 (some .int) 9 0 := ⟨⟨_, rfl, rfl⟩, by decide, g_958, g_959, g_1, g_960, by decide, by decide, by decide +kernel⟩
theorem yV_X9_mark : YV yX9_mark cX9_mark 2 (some .int) 9 0 := ⟨⟨_, rfl, rfl⟩, by decide, g_1045, g_1046, g_1, g_1047, by decide, by decide, by decide +kernel⟩
theorem yV_X9_mean : YV yX9_mean cX9_mean 9 (some .long) 9 6 := ⟨⟨_, rfl, rfl⟩, by decide, g_733, g_734, g_1, g_735, by decide, by decide, by decide +kernel⟩
theorem yV_X9_minutes : YV yX9_minutes cX9_minutes 4 (some .int) 9 3 := ⟨⟨_, rfl, rfl⟩, by decide, g_738, g_739, g_1, g_740, by decide, by decide, by decide +kernel⟩
theorem yV_X9_off : YV yX9_off cX9_off 9 (some .int) 9 4 := ⟨⟨_, rfl, rfl⟩, by decide, g_922, g_923, g_1, g_924, by decide, by decide, by decide +kernel⟩
theorem yV_X9_road : YV yX9_road cX9_road 3 (some .int) 9 2 := ⟨⟨_, rfl, rfl⟩, by decide, g_1069, g_1070, g_1, g_1071, by decide, by decide, by decide +kernel⟩
theorem yV_X9_round : YV yX9_round cX9_round 9 (some .long) 9 4 := ⟨⟨_, rfl, rfl⟩, by decide, g_789, g_790, g_1, g_791, by decide, by decide, by decide +kernel⟩
theorem yV_X9_saves : YV yX9_saves cX9_saves 9 (some .long) 9 5 := ⟨⟨_, rfl, rfl⟩, by decide, g_767, g_768, g_1, g_769, by decide, by decide, by decide +kernel⟩
theorem yV_X9_size : YV yX9_size cX9_size 2 (some .int) 9 1 := ⟨⟨_, rfl, rfl⟩, by decide, g_1077, g_1078, g_1, g_1079, by decide, by decide, by decide +kernel⟩
theorem yV_X9_soaked : YV yX9_soaked cX9_soaked 2 (some .int) 9 0 := ⟨⟨_, rfl, rfl⟩, by decide, g_1033, g_1034, g_1, g_1035, by decide, by decide, by decide +kernel⟩
theorem yV_X9_stay : YV yX9_stay cX9_stay 5 (some .boolean) 9 1 := ⟨⟨_, rfl, rfl⟩, by decide, g_1005, g_1006, g_1, g_1007, by decide, by decide, by decide +kernel⟩
theorem yV_X9_step : YV yX9_step cX9_step 8 (some .int) 9 6 := ⟨⟨_, rfl, rfl⟩, by decide, g_918, g_919, g_1, g_920, by decide, by decide, by decide +kernel⟩
theorem yV_X9_steps : YV yX9_steps cX9_steps 6 (some .int) 9 5 := ⟨⟨_, rfl, rfl⟩, by decide, g_909, g_910, g_1, g_911, by decide, by decide, by decide +kernel⟩
theorem yV_X9_there : YV yX9_there cX9_there 6 (some .int) 9 5 := ⟨⟨_, rfl, rfl⟩, by decide, g_901, g_902, g_1, g_903, by decide, by decide, by decide +kernel⟩
theorem yV_X9_trouble : YV yX9_trouble cX9_trouble 1 (some .int) 9 0 := ⟨⟨_, rfl, rfl⟩, by decide, g_1081, g_1082, g_1, g_1083, by decide, by decide, by decide +kernel⟩
theorem yV_X9_undo : YV yX9_undo cX9_undo 1 (some .boolean) 9 0 := ⟨⟨_, rfl, rfl⟩, by decide, g_1037, g_1038, g_1, g_1039, by decide, by decide, by decide +kernel⟩
theorem yV_X9_walker : YV yX9_walker cX9_walker 3 (some .int) 9 2 := ⟨⟨_, rfl, rfl⟩, by decide, g_1061, g_1062, g_1, g_1063, by decide, by decide, by decide +kernel⟩
theorem yV_X9_wet : YV yX9_wet cX9_wet 7 (some .long) 9 6 := ⟨⟨_, rfl, rfl⟩, by decide, g_729, g_730, g_1, g_731, by decide, by decide, by decide +kernel⟩
theorem yV_X9_wetness : YV yX9_wetness cX9_wetness 4 (some .long) 9 1 := ⟨⟨_, rfl, rfl⟩, by decide, g_1019, g_1020, g_1, g_1021, by decide, by decide, by decide +kernel⟩
theorem yV_X9_where : YV yX9_where cX9_where 1 (some .int) 9 0 := ⟨⟨_, rfl, rfl⟩, by decide, g_646, g_647, g_1, g_648, by decide, by decide, by decide +kernel⟩
theorem yV_X9_world : YV yX9_world cX9_world 3 (some .int) 9 1 := ⟨⟨_, rfl, rfl⟩, by decide, g_427, g_428, g_1, g_429, by decide, by decide, by decide +kernel⟩
theorem yV_X9_worst : YV yX9_worst cX9_worst 5 (some .int) 9 4 := ⟨⟨_, rfl, rfl⟩, by decide, g_776, g_777, g_1, g_778, by decide, by decide, by decide +kernel⟩
end
section
def P_L_law_2341 (scL : Nat) (scx : Nat → Int32) (Q : Int32 → HS → Prop) (X23 : Nat → Nat → Nat → Int32 → Nat → Nat → HS → Prop) (v1 : Nat) (v2 : Nat) (v3 : Nat) (v4 : Int32) (kk : Nat) (nn : Nat) (S : HS) : Prop := ∀ x1 : Int32, x1 = v4 + (8 : Int32) → (X23 v1 v2 v3 x1 kk nn S)
set_option maxRecDepth 20000 in
set_option maxHeartbeats 4000000 in
theorem T_L_law_2341 {X : CX} {Q : Int32 → HS → Prop} {scb scL : Nat} {scx : Nat → Int32} (C : Cx X cL_law RL 7 rm_L_law) (E : LE X scb scL scx Q) (ht : LD X) (hn : True) {X23 : Nat → Nat → Nat → Int32 → Nat → Nat → HS → Prop} (hX23 : ∀ (v1 : Nat) (v2 : Nat) (v3 : Nat) (v4 : Int32) (kk : Nat) (nn : Nat) (S : HS), X23 v1 v2 v3 v4 kk nn S → WS X 7 kk nn 23 [(0, .ref scb), (1, .ref v1), (2, .ref v2), (3, .ref v3), (4, .int v4)] [] S) {v1 : Nat} {v2 : Nat} {v3 : Nat} {v4 : Int32} {kk : Nat} {nn : Nat} {S : HS} (h : P_L_law_2341 scL scx Q X23 v1 v2 v3 v4 kk nn S) : WS X 7 kk nn 2341 [(0, .ref scb), (1, .ref v1), (2, .ref v2), (3, .ref v3), (4, .int v4)] [] S := by
  obtain ⟨x1, ex1⟩ : ∃ z : Int32, z = v4 + (8 : Int32) := ⟨_, rfl⟩
  have h := h x1 ex1
  refine r_iinc (pc := 2341) C (v := x1) (lv' := [(4, .int x1), (0, .ref scb), (1, .ref v1), (2, .ref v2), (3, .ref v3)]) dL_law_2341 4 rfl ex1.symm (by decide) rfl ?_
  refine r_goto (pc := 2344) C (tgt := 23) dL_law_2344 (by decide) ?_
  exact r_sub [1, 2, 3, 4, 0] rfl (hX23 v1 v2 v3 x1 kk nn S h)
def P_L_law_216 (scL : Nat) (scx : Nat → Int32) (Q : Int32 → HS → Prop) (X23 : Nat → Nat → Nat → Int32 → Nat → Nat → HS → Prop) (v1 : Nat) (v2 : Nat) (v3 : Nat) (v4 : Int32) (kk : Nat) (nn : Nat) (S : HS) : Prop := ∀ x1 : Int32, x1 = v4 + (1 : Int32) → (vp_in x1 scL ∧ ∀ x3 : Int32, x3 = scx x1.toNatClampNeg → (∀ x4 : Int32, x4 = v4 + (2 : Int32) → (vp_in x4 scL ∧ ∀ x6 : Int32, x6 = scx x4.toNatClampNeg → (∀ x7 : Int32, x7 = v4 + (3 : Int32) → (vp_in x7 scL ∧ ∀ x9 : Int32, x9 = scx x7.toNatClampNeg → (∀ x10 : Int32, x10 = v4 + (4 : Int32) → (vp_in x10 scL ∧ ∀ x12 : Int32, x12 = scx x10.toNatClampNeg → (∀ x13 : Int32, x13 = v4 + (5 : Int32) → (vp_in x13 scL ∧ ∀ x15 : Int32, x15 = scx x13.toNatClampNeg → (ob S v1 9 ∧ (kk ≤ rm_L_law.cells ∧ nn ≤ rm_L_law.slots ∧ (P_X9_feed v1 x3 x6 x9 x12 x15 (fun x18 S16 => Gr S S16 → (∀ x19 : Int32, x19 = v4 + (1 : Int32) → (vp_in x19 scL ∧ ∀ x21 : Int32, x21 = scx x19.toNatClampNeg → (∀ x22 : Int32, x22 = v4 + (2 : Int32) → (vp_in x22 scL ∧ ∀ x24 : Int32, x24 = scx x22.toNatClampNeg → (∀ x25 : Int32, x25 = v4 + (3 : Int32) → (vp_in x25 scL ∧ ∀ x27 : Int32, x27 = scx x25.toNatClampNeg → (∀ x28 : Int32, x28 = v4 + (4 : Int32) → (vp_in x28 scL ∧ ∀ x30 : Int32, x30 = scx x28.toNatClampNeg → (∀ x31 : Int32, x31 = v4 + (5 : Int32) → (vp_in x31 scL ∧ ∀ x33 : Int32, x33 = scx x31.toNatClampNeg → (ob S16 v2 11 ∧ (kk ≤ rm_L_law.cells ∧ nn ≤ rm_L_law.slots ∧ (P_X11_feed v2 x21 x24 x27 x30 x33 (fun x36 S34 => Gr S16 S34 → (P_L_law_2341 scL scx Q X23 v1 v2 v3 v4 kk nn S34)) S16)))))))))))))) S))))))))))))
set_option maxRecDepth 20000 in
set_option maxHeartbeats 4000000 in
theorem T_L_law_216 {X : CX} {Q : Int32 → HS → Prop} {scb scL : Nat} {scx : Nat → Int32} (C : Cx X cL_law RL 7 rm_L_law) (E : LE X scb scL scx Q) (ht : LD X) (hn : True) {X23 : Nat → Nat → Nat → Int32 → Nat → Nat → HS → Prop} (hX23 : ∀ (v1 : Nat) (v2 : Nat) (v3 : Nat) (v4 : Int32) (kk : Nat) (nn : Nat) (S : HS), X23 v1 v2 v3 v4 kk nn S → WS X 7 kk nn 23 [(0, .ref scb), (1, .ref v1), (2, .ref v2), (3, .ref v3), (4, .int v4)] [] S) {v1 : Nat} {v2 : Nat} {v3 : Nat} {v4 : Int32} {kk : Nat} {nn : Nat} {S : HS} (h : P_L_law_216 scL scx Q X23 v1 v2 v3 v4 kk nn S) : WS X 7 kk nn 216 [(0, .ref scb), (1, .ref v1), (2, .ref v2), (3, .ref v3), (4, .int v4)] [] S := by
  refine r_aload_n (pc := 216) C dL_law_216 1 rfl ?_
  refine r_aload_n (pc := 217) C dL_law_217 0 rfl ?_
  refine r_iload (pc := 218) C dL_law_218 4 rfl ?_
  refine r_iconst (pc := 220) C (v := (1 : Int32)) dL_law_220 (by decide) ?_
  refine r_iadd (pc := 221) C dL_law_221 ?_
  refine r_topi (fun x1 ex1 => ?_)
  have h := h x1 ex1
  obtain ⟨i2, h⟩ := h
  refine r_scLd (pc := 222) C E i2 dL_law_222 ?_
  refine r_topi (fun x3 ex3 => ?_)
  have h := h x3 ex3
  refine r_aload_n (pc := 223) C dL_law_223 0 rfl ?_
  refine r_iload (pc := 224) C dL_law_224 4 rfl ?_
  refine r_iconst (pc := 226) C (v := (2 : Int32)) dL_law_226 (by decide) ?_
  refine r_iadd (pc := 227) C dL_law_227 ?_
  refine r_topi (fun x4 ex4 => ?_)
  have h := h x4 ex4
  obtain ⟨i5, h⟩ := h
  refine r_scLd (pc := 228) C E i5 dL_law_228 ?_
  refine r_topi (fun x6 ex6 => ?_)
  have h := h x6 ex6
  refine r_aload_n (pc := 229) C dL_law_229 0 rfl ?_
  refine r_iload (pc := 230) C dL_law_230 4 rfl ?_
  refine r_iconst (pc := 232) C (v := (3 : Int32)) dL_law_232 (by decide) ?_
  refine r_iadd (pc := 233) C dL_law_233 ?_
  refine r_topi (fun x7 ex7 => ?_)
  have h := h x7 ex7
  obtain ⟨i8, h⟩ := h
  refine r_scLd (pc := 234) C E i8 dL_law_234 ?_
  refine r_topi (fun x9 ex9 => ?_)
  have h := h x9 ex9
  refine r_aload_n (pc := 235) C dL_law_235 0 rfl ?_
  refine r_iload (pc := 236) C dL_law_236 4 rfl ?_
  refine r_iconst (pc := 238) C (v := (4 : Int32)) dL_law_238 (by decide) ?_
  refine r_iadd (pc := 239) C dL_law_239 ?_
  refine r_topi (fun x10 ex10 => ?_)
  have h := h x10 ex10
  obtain ⟨i11, h⟩ := h
  refine r_scLd (pc := 240) C E i11 dL_law_240 ?_
  refine r_topi (fun x12 ex12 => ?_)
  have h := h x12 ex12
  refine r_aload_n (pc := 241) C dL_law_241 0 rfl ?_
  refine r_iload (pc := 242) C dL_law_242 4 rfl ?_
  refine r_iconst (pc := 244) C (v := (5 : Int32)) dL_law_244 (by decide) ?_
  refine r_iadd (pc := 245) C dL_law_245 ?_
  refine r_topi (fun x13 ex13 => ?_)
  have h := h x13 ex13
  obtain ⟨i14, h⟩ := h
  refine r_scLd (pc := 246) C E i14 dL_law_246 ?_
  refine r_topi (fun x15 ex15 => ?_)
  have h := h x15 ex15
  obtain ⟨o_v1, h⟩ := h
  obtain ⟨hk, hk2, h⟩ := h
  refine r_callVi0 (pc := 247) C (rest := []) (a := v1) o_v1 [.int x3, .int x6, .int x9, .int x12, .int x15] yV_X9_feed g_418 (c_X9_feed h) dL_law_247 rfl rfl (Nat.le_of_ble_eq_true rfl) ⟨by decide, by decide⟩ ⟨hk, hk2⟩ ⟨rfl, rfl⟩ (fun x18 S16 h g17 => ?_)
  have h := h g17
  have o_v1 := gr_ob g17 o_v1
  refine r_pop (pc := 250) C dL_law_250 rfl ?_
  refine r_aload_n (pc := 251) C dL_law_251 2 rfl ?_
  refine r_aload_n (pc := 252) C dL_law_252 0 rfl ?_
  refine r_iload (pc := 253) C dL_law_253 4 rfl ?_
  refine r_iconst (pc := 255) C (v := (1 : Int32)) dL_law_255 (by decide) ?_
  refine r_iadd (pc := 256) C dL_law_256 ?_
  refine r_topi (fun x19 ex19 => ?_)
  have h := h x19 ex19
  obtain ⟨i20, h⟩ := h
  refine r_scLd (pc := 257) C E i20 dL_law_257 ?_
  refine r_topi (fun x21 ex21 => ?_)
  have h := h x21 ex21
  refine r_aload_n (pc := 258) C dL_law_258 0 rfl ?_
  refine r_iload (pc := 259) C dL_law_259 4 rfl ?_
  refine r_iconst (pc := 261) C (v := (2 : Int32)) dL_law_261 (by decide) ?_
  refine r_iadd (pc := 262) C dL_law_262 ?_
  refine r_topi (fun x22 ex22 => ?_)
  have h := h x22 ex22
  obtain ⟨i23, h⟩ := h
  refine r_scLd (pc := 263) C E i23 dL_law_263 ?_
  refine r_topi (fun x24 ex24 => ?_)
  have h := h x24 ex24
  refine r_aload_n (pc := 264) C dL_law_264 0 rfl ?_
  refine r_iload (pc := 265) C dL_law_265 4 rfl ?_
  refine r_iconst (pc := 267) C (v := (3 : Int32)) dL_law_267 (by decide) ?_
  refine r_iadd (pc := 268) C dL_law_268 ?_
  refine r_topi (fun x25 ex25 => ?_)
  have h := h x25 ex25
  obtain ⟨i26, h⟩ := h
  refine r_scLd (pc := 269) C E i26 dL_law_269 ?_
  refine r_topi (fun x27 ex27 => ?_)
  have h := h x27 ex27
  refine r_aload_n (pc := 270) C dL_law_270 0 rfl ?_
  refine r_iload (pc := 271) C dL_law_271 4 rfl ?_
  refine r_iconst (pc := 273) C (v := (4 : Int32)) dL_law_273 (by decide) ?_
  refine r_iadd (pc := 274) C dL_law_274 ?_
  refine r_topi (fun x28 ex28 => ?_)
  have h := h x28 ex28
  obtain ⟨i29, h⟩ := h
  refine r_scLd (pc := 275) C E i29 dL_law_275 ?_
  refine r_topi (fun x30 ex30 => ?_)
  have h := h x30 ex30
  refine r_aload_n (pc := 276) C dL_law_276 0 rfl ?_
  refine r_iload (pc := 277) C dL_law_277 4 rfl ?_
  refine r_iconst (pc := 279) C (v := (5 : Int32)) dL_law_279 (by decide) ?_
  refine r_iadd (pc := 280) C dL_law_280 ?_
  refine r_topi (fun x31 ex31 => ?_)
  have h := h x31 ex31
  obtain ⟨i32, h⟩ := h
  refine r_scLd (pc := 281) C E i32 dL_law_281 ?_
  refine r_topi (fun x33 ex33 => ?_)
  have h := h x33 ex33
  obtain ⟨o_v2, h⟩ := h
  obtain ⟨hk, hk2, h⟩ := h
  refine r_callVi0 (pc := 282) C (rest := []) (a := v2) o_v2 [.int x21, .int x24, .int x27, .int x30, .int x33] yV_X11_feed g_1242 (c_X11_feed h) dL_law_282 rfl rfl (Nat.le_of_ble_eq_true rfl) ⟨by decide, by decide⟩ ⟨hk, hk2⟩ ⟨rfl, rfl⟩ (fun x36 S34 h g35 => ?_)
  have h := h g35
  have o_v1 := gr_ob g35 o_v1
  have o_v2 := gr_ob g35 o_v2
  refine r_pop (pc := 285) C dL_law_285 rfl ?_
  refine r_goto (pc := 286) C (tgt := 2341) dL_law_286 (by decide) ?_
  exact r_sub [0, 1, 2, 3, 4] rfl (T_L_law_2341 C E ht hn hX23 h)
def P_L_law_289 (scL : Nat) (scx : Nat → Int32) (Q : Int32 → HS → Prop) (X23 : Nat → Nat → Nat → Int32 → Nat → Nat → HS → Prop) (v1 : Nat) (v2 : Nat) (v3 : Nat) (v4 : Int32) (kk : Nat) (nn : Nat) (S : HS) : Prop := ∀ x1 : Int32, x1 = v4 + (1 : Int32) → (vp_in x1 scL ∧ ∀ x3 : Int32, x3 = scx x1.toNatClampNeg → (ob S v1 9 ∧ (kk ≤ rm_L_law.cells ∧ nn ≤ rm_L_law.slots ∧ (P_X9_world v1 x3 (fun x6 S4 => Gr S S4 → (∀ x7 : Int32, x7 = v4 + (1 : Int32) → (vp_in x7 scL ∧ ∀ x9 : Int32, x9 = scx x7.toNatClampNeg → (ob S4 v2 11 ∧ (kk + 25 ≤ rm_L_law.cells ∧ nn + 225 ≤ rm_L_law.slots ∧ (P_X11_world v2 x9 (fun x12 S10 => Gr S4 S10 → (P_L_law_2341 scL scx Q X23 v1 v2 v3 v4 (kk + 25) (nn + 225) S10)) S4)))))) S))))
set_option maxRecDepth 20000 in
set_option maxHeartbeats 4000000 in
theorem T_L_law_289 {X : CX} {Q : Int32 → HS → Prop} {scb scL : Nat} {scx : Nat → Int32} (C : Cx X cL_law RL 7 rm_L_law) (E : LE X scb scL scx Q) (ht : LD X) (hn : True) {X23 : Nat → Nat → Nat → Int32 → Nat → Nat → HS → Prop} (hX23 : ∀ (v1 : Nat) (v2 : Nat) (v3 : Nat) (v4 : Int32) (kk : Nat) (nn : Nat) (S : HS), X23 v1 v2 v3 v4 kk nn S → WS X 7 kk nn 23 [(0, .ref scb), (1, .ref v1), (2, .ref v2), (3, .ref v3), (4, .int v4)] [] S) {v1 : Nat} {v2 : Nat} {v3 : Nat} {v4 : Int32} {kk : Nat} {nn : Nat} {S : HS} (h : P_L_law_289 scL scx Q X23 v1 v2 v3 v4 kk nn S) : WS X 7 kk nn 289 [(0, .ref scb), (1, .ref v1), (2, .ref v2), (3, .ref v3), (4, .int v4)] [] S := by
  refine r_aload_n (pc := 289) C dL_law_289 1 rfl ?_
  refine r_aload_n (pc := 290) C dL_law_290 0 rfl ?_
  refine r_iload (pc := 291) C dL_law_291 4 rfl ?_
  refine r_iconst (pc := 293) C (v := (1 : Int32)) dL_law_293 (by decide) ?_
  refine r_iadd (pc := 294) C dL_law_294 ?_
  refine r_topi (fun x1 ex1 => ?_)
  have h := h x1 ex1
  obtain ⟨i2, h⟩ := h
  refine r_scLd (pc := 295) C E i2 dL_law_295 ?_
  refine r_topi (fun x3 ex3 => ?_)
  have h := h x3 ex3
  obtain ⟨o_v1, h⟩ := h
  obtain ⟨hk, hk2, h⟩ := h
  refine r_callVi0 (pc := 296) C (rest := []) (a := v1) o_v1 [.int x3] yV_X9_world g_426 (c_X9_world h) dL_law_296 rfl rfl (Nat.le_of_ble_eq_true rfl) ⟨by decide, by decide⟩ ⟨hk, hk2⟩ ⟨rfl, rfl⟩ (fun x6 S4 h g5 => ?_)
  have h := h g5
  have o_v1 := gr_ob g5 o_v1
  refine r_pop (pc := 299) C dL_law_299 rfl ?_
  refine r_aload_n (pc := 300) C dL_law_300 2 rfl ?_
  refine r_aload_n (pc := 301) C dL_law_301 0 rfl ?_
  refine r_iload (pc := 302) C dL_law_302 4 rfl ?_
  refine r_iconst (pc := 304) C (v := (1 : Int32)) dL_law_304 (by decide) ?_
  refine r_iadd (pc := 305) C dL_law_305 ?_
  refine r_topi (fun x7 ex7 => ?_)
  have h := h x7 ex7
  obtain ⟨i8, h⟩ := h
  refine r_scLd (pc := 306) C E i8 dL_law_306 ?_
  refine r_topi (fun x9 ex9 => ?_)
  have h := h x9 ex9
  obtain ⟨o_v2, h⟩ := h
  obtain ⟨hk, hk2, h⟩ := h
  refine r_callVi (pc := 307) C (rest := []) (a := v2) o_v2 [.int x9] yV_X11_world g_1246 (c_X11_world h) dL_law_307 rfl rfl (Nat.le_of_ble_eq_true rfl) ⟨by decide, by decide⟩ ⟨hk, hk2⟩ (fun x12 S10 h g11 => ?_)
  have h := h g11
  have o_v1 := gr_ob g11 o_v1
  have o_v2 := gr_ob g11 o_v2
  refine r_pop (pc := 310) C dL_law_310 rfl ?_
  refine r_goto (pc := 311) C (tgt := 2341) dL_law_311 (by decide) ?_
  exact r_sub [0, 1, 2, 3, 4] rfl (T_L_law_2341 C E ht hn hX23 h)
def P_L_law_314 (scL : Nat) (scx : Nat → Int32) (Q : Int32 → HS → Prop) (X23 : Nat → Nat → Nat → Int32 → Nat → Nat → HS → Prop) (v1 : Nat) (v2 : Nat) (v3 : Nat) (v4 : Int32) (kk : Nat) (nn : Nat) (S : HS) : Prop := ob S v1 9 ∧ (kk ≤ rm_L_law.cells ∧ nn ≤ rm_L_law.slots ∧ (P_X9_fault v1 (fun x3 S1 => Gr S S1 → (ob S1 v2 11 ∧ (kk ≤ rm_L_law.cells ∧ nn ≤ rm_L_law.slots ∧ (P_X11_fault v2 (fun x6 S4 => Gr S1 S4 → (P_L_law_2341 scL scx Q X23 v1 v2 v3 v4 kk nn S4)) S1)))) S))
set_option maxRecDepth 20000 in
set_option maxHeartbeats 4000000 in
theorem T_L_law_314 {X : CX} {Q : Int32 → HS → Prop} {scb scL : Nat} {scx : Nat → Int32} (C : Cx X cL_law RL 7 rm_L_law) (E : LE X scb scL scx Q) (ht : LD X) (hn : True) {X23 : Nat → Nat → Nat → Int32 → Nat → Nat → HS → Prop} (hX23 : ∀ (v1 : Nat) (v2 : Nat) (v3 : Nat) (v4 : Int32) (kk : Nat) (nn : Nat) (S : HS), X23 v1 v2 v3 v4 kk nn S → WS X 7 kk nn 23 [(0, .ref scb), (1, .ref v1), (2, .ref v2), (3, .ref v3), (4, .int v4)] [] S) {v1 : Nat} {v2 : Nat} {v3 : Nat} {v4 : Int32} {kk : Nat} {nn : Nat} {S : HS} (h : P_L_law_314 scL scx Q X23 v1 v2 v3 v4 kk nn S) : WS X 7 kk nn 314 [(0, .ref scb), (1, .ref v1), (2, .ref v2), (3, .ref v3), (4, .int v4)] [] S := by
  refine r_aload_n (pc := 314) C dL_law_314 1 rfl ?_
  obtain ⟨o_v1, h⟩ := h
  obtain ⟨hk, hk2, h⟩ := h
  refine r_callVi0 (pc := 315) C (rest := []) (a := v1) o_v1 [] yV_X9_fault g_641 (c_X9_fault h) dL_law_315 rfl rfl (Nat.le_of_ble_eq_true rfl) ⟨by decide, by decide⟩ ⟨hk, hk2⟩ ⟨rfl, rfl⟩ (fun x3 S1 h g2 => ?_)
  have h := h g2
  have o_v1 := gr_ob g2 o_v1
  refine r_pop (pc := 318) C dL_law_318 rfl ?_
  refine r_aload_n (pc := 319) C dL_law_319 2 rfl ?_
  obtain ⟨o_v2, h⟩ := h
  obtain ⟨hk, hk2, h⟩ := h
  refine r_callVi0 (pc := 320) C (rest := []) (a := v2) o_v2 [] yV_X11_fault g_1522 (c_X11_fault h) dL_law_320 rfl rfl (Nat.le_of_ble_eq_true rfl) ⟨by decide, by decide⟩ ⟨hk, hk2⟩ ⟨rfl, rfl⟩ (fun x6 S4 h g5 => ?_)
  have h := h g5
  have o_v1 := gr_ob g5 o_v1
  have o_v2 := gr_ob g5 o_v2
  refine r_pop (pc := 323) C dL_law_323 rfl ?_
  refine r_goto (pc := 324) C (tgt := 2341) dL_law_324 (by decide) ?_
  exact r_sub [0, 1, 2, 3, 4] rfl (T_L_law_2341 C E ht hn hX23 h)
def P_L_law_327 (scL : Nat) (scx : Nat → Int32) (Q : Int32 → HS → Prop) (X23 : Nat → Nat → Nat → Int32 → Nat → Nat → HS → Prop) (v1 : Nat) (v2 : Nat) (v3 : Nat) (v4 : Int32) (kk : Nat) (nn : Nat) (S : HS) : Prop := ob S v1 9 ∧ (kk ≤ rm_L_law.cells ∧ nn ≤ rm_L_law.slots ∧ (P_X9_where v1 (fun x3 S1 => Gr S S1 → (ob S1 v2 11 ∧ (kk ≤ rm_L_law.cells ∧ nn ≤ rm_L_law.slots ∧ (P_X11_where v2 (fun x6 S4 => Gr S1 S4 → (P_L_law_2341 scL scx Q X23 v1 v2 v3 v4 kk nn S4)) S1)))) S))
set_option maxRecDepth 20000 in
set_option maxHeartbeats 4000000 in
theorem T_L_law_327 {X : CX} {Q : Int32 → HS → Prop} {scb scL : Nat} {scx : Nat → Int32} (C : Cx X cL_law RL 7 rm_L_law) (E : LE X scb scL scx Q) (ht : LD X) (hn : True) {X23 : Nat → Nat → Nat → Int32 → Nat → Nat → HS → Prop} (hX23 : ∀ (v1 : Nat) (v2 : Nat) (v3 : Nat) (v4 : Int32) (kk : Nat) (nn : Nat) (S : HS), X23 v1 v2 v3 v4 kk nn S → WS X 7 kk nn 23 [(0, .ref scb), (1, .ref v1), (2, .ref v2), (3, .ref v3), (4, .int v4)] [] S) {v1 : Nat} {v2 : Nat} {v3 : Nat} {v4 : Int32} {kk : Nat} {nn : Nat} {S : HS} (h : P_L_law_327 scL scx Q X23 v1 v2 v3 v4 kk nn S) : WS X 7 kk nn 327 [(0, .ref scb), (1, .ref v1), (2, .ref v2), (3, .ref v3), (4, .int v4)] [] S := by
  refine r_aload_n (pc := 327) C dL_law_327 1 rfl ?_
  obtain ⟨o_v1, h⟩ := h
  obtain ⟨hk, hk2, h⟩ := h
  refine r_callVi0 (pc := 328) C (rest := []) (a := v1) o_v1 [] yV_X9_where g_645 (c_X9_where h) dL_law_328 rfl rfl (Nat.le_of_ble_eq_true rfl) ⟨by decide, by decide⟩ ⟨hk, hk2⟩ ⟨rfl, rfl⟩ (fun x3 S1 h g2 => ?_)
  have h := h g2
  have o_v1 := gr_ob g2 o_v1
  refine r_pop (pc := 331) C dL_law_331 rfl ?_
  refine r_aload_n (pc := 332) C dL_law_332 2 rfl ?_
  obtain ⟨o_v2, h⟩ := h
  obtain ⟨hk, hk2, h⟩ := h
  refine r_callVi0 (pc := 333) C (rest := []) (a := v2) o_v2 [] yV_X11_where g_1526 (c_X11_where h) dL_law_333 rfl rfl (Nat.le_of_ble_eq_true rfl) ⟨by decide, by decide⟩ ⟨hk, hk2⟩ ⟨rfl, rfl⟩ (fun x6 S4 h g5 => ?_)
  have h := h g5
  have o_v1 := gr_ob g5 o_v1
  have o_v2 := gr_ob g5 o_v2
  refine r_pop (pc := 336) C dL_law_336 rfl ?_
  refine r_goto (pc := 337) C (tgt := 2341) dL_law_337 (by decide) ?_
  exact r_sub [0, 1, 2, 3, 4] rfl (T_L_law_2341 C E ht hn hX23 h)
def P_L_law_450 (scL : Nat) (scx : Nat → Int32) (Q : Int32 → HS → Prop) (X23 : Nat → Nat → Nat → Int32 → Nat → Nat → HS → Prop) (v1 : Nat) (v2 : Nat) (v3 : Nat) (v4 : Int32) (s0 : Nat) (s1 : Int32) (s2 : Int32) (s3 : Int32) (s4 : Int32) (s5 : Int32) (s6 : Int32) (s7 : Int32) (kk : Nat) (nn : Nat) (S : HS) : Prop := ob S s0 11 ∧ (kk ≤ rm_L_law.cells ∧ nn ≤ rm_L_law.slots ∧ (P_X11_face s0 s1 s2 s3 s4 s5 s6 s7 (fun x3 S1 => Gr S S1 → (P_L_law_2341 scL scx Q X23 v1 v2 v3 v4 kk nn S1)) S))
set_option maxRecDepth 20000 in
set_option maxHeartbeats 4000000 in
theorem T_L_law_450 {X : CX} {Q : Int32 → HS → Prop} {scb scL : Nat} {scx : Nat → Int32} (C : Cx X cL_law RL 7 rm_L_law) (E : LE X scb scL scx Q) (ht : LD X) (hn : True) {X23 : Nat → Nat → Nat → Int32 → Nat → Nat → HS → Prop} (hX23 : ∀ (v1 : Nat) (v2 : Nat) (v3 : Nat) (v4 : Int32) (kk : Nat) (nn : Nat) (S : HS), X23 v1 v2 v3 v4 kk nn S → WS X 7 kk nn 23 [(0, .ref scb), (1, .ref v1), (2, .ref v2), (3, .ref v3), (4, .int v4)] [] S) {v1 : Nat} {v2 : Nat} {v3 : Nat} {v4 : Int32} {s0 : Nat} {s1 : Int32} {s2 : Int32} {s3 : Int32} {s4 : Int32} {s5 : Int32} {s6 : Int32} {s7 : Int32} {kk : Nat} {nn : Nat} {S : HS} (h : P_L_law_450 scL scx Q X23 v1 v2 v3 v4 s0 s1 s2 s3 s4 s5 s6 s7 kk nn S) : WS X 7 kk nn 450 [(0, .ref scb), (1, .ref v1), (2, .ref v2), (3, .ref v3), (4, .int v4)] [.int s7, .int s6, .int s5, .int s4, .int s3, .int s2, .int s1, .ref s0] S := by
  obtain ⟨o_s0, h⟩ := h
  obtain ⟨hk, hk2, h⟩ := h
  refine r_callVl0 (pc := 450) C (rest := []) (a := s0) o_s0 [.int s1, .int s2, .int s3, .int s4, .int s5, .int s6, .int s7] yV_X11_face g_1530 (c_X11_face h) dL_law_450 rfl rfl (Nat.le_of_ble_eq_true rfl) ⟨by decide, by decide⟩ ⟨hk, hk2⟩ ⟨rfl, rfl⟩ (fun x3 S1 h g2 => ?_)
  have h := h g2
  have o_s0 := gr_ob g2 o_s0
  refine r_pop2 (pc := 453) C dL_law_453 rfl ?_
  refine r_goto (pc := 454) C (tgt := 2341) dL_law_454 (by decide) ?_
  exact r_sub [0, 1, 2, 3, 4] rfl (T_L_law_2341 C E ht hn hX23 h)
def P_L_law_393 (scL : Nat) (scx : Nat → Int32) (Q : Int32 → HS → Prop) (X23 : Nat → Nat → Nat → Int32 → Nat → Nat → HS → Prop) (v1 : Nat) (v2 : Nat) (v3 : Nat) (v4 : Int32) (s0 : Nat) (s1 : Int32) (s2 : Int32) (s3 : Int32) (s4 : Int32) (s5 : Int32) (s6 : Int32) (s7 : Int32) (kk : Nat) (nn : Nat) (S : HS) : Prop := ob S s0 9 ∧ (kk ≤ rm_L_law.cells ∧ nn ≤ rm_L_law.slots ∧ (P_X9_face s0 s1 s2 s3 s4 s5 s6 s7 (fun x3 S1 => Gr S S1 → (∀ x4 : Int32, x4 = v4 + (1 : Int32) → (vp_in x4 scL ∧ ∀ x6 : Int32, x6 = scx x4.toNatClampNeg → (∀ x7 : Int32, x7 = v4 + (2 : Int32) → (vp_in x7 scL ∧ ∀ x9 : Int32, x9 = scx x7.toNatClampNeg → (∀ x10 : Int32, x10 = v4 + (3 : Int32) → (vp_in x10 scL ∧ ∀ x12 : Int32, x12 = scx x10.toNatClampNeg → (∀ x13 : Int32, x13 = v4 + (4 : Int32) → (vp_in x13 scL ∧ ∀ x15 : Int32, x15 = scx x13.toNatClampNeg → (∀ x16 : Int32, x16 = v4 + (5 : Int32) → (vp_in x16 scL ∧ ∀ x18 : Int32, x18 = scx x16.toNatClampNeg → (∀ x19 : Int32, x19 = v4 + (6 : Int32) → (vp_in x19 scL ∧ ∀ x21 : Int32, x21 = scx x19.toNatClampNeg → (∀ x22 : Int32, x22 = v4 + (7 : Int32) → (vp_in x22 scL ∧ ∀ x24 : Int32, x24 = scx x22.toNatClampNeg → (((x24 = 0) → (P_L_law_450 scL scx Q X23 v1 v2 v3 v4 v2 x6 x9 x12 x15 x18 x21 (0 : Int32) kk nn S1)) ∧ ((¬ x24 = 0) → (P_L_law_450 scL scx Q X23 v1 v2 v3 v4 v2 x6 x9 x12 x15 x18 x21 (1 : Int32) kk nn S1)))))))))))))))))) S))
set_option maxRecDepth 20000 in
set_option maxHeartbeats 4000000 in
theorem T_L_law_393 {X : CX} {Q : Int32 → HS → Prop} {scb scL : Nat} {scx : Nat → Int32} (C : Cx X cL_law RL 7 rm_L_law) (E : LE X scb scL scx Q) (ht : LD X) (hn : True) {X23 : Nat → Nat → Nat → Int32 → Nat → Nat → HS → Prop} (hX23 : ∀ (v1 : Nat) (v2 : Nat) (v3 : Nat) (v4 : Int32) (kk : Nat) (nn : Nat) (S : HS), X23 v1 v2 v3 v4 kk nn S → WS X 7 kk nn 23 [(0, .ref scb), (1, .ref v1), (2, .ref v2), (3, .ref v3), (4, .int v4)] [] S) {v1 : Nat} {v2 : Nat} {v3 : Nat} {v4 : Int32} {s0 : Nat} {s1 : Int32} {s2 : Int32} {s3 : Int32} {s4 : Int32} {s5 : Int32} {s6 : Int32} {s7 : Int32} {kk : Nat} {nn : Nat} {S : HS} (h : P_L_law_393 scL scx Q X23 v1 v2 v3 v4 s0 s1 s2 s3 s4 s5 s6 s7 kk nn S) : WS X 7 kk nn 393 [(0, .ref scb), (1, .ref v1), (2, .ref v2), (3, .ref v3), (4, .int v4)] [.int s7, .int s6, .int s5, .int s4, .int s3, .int s2, .int s1, .ref s0] S := by
  obtain ⟨o_s0, h⟩ := h
  obtain ⟨hk, hk2, h⟩ := h
  refine r_callVl0 (pc := 393) C (rest := []) (a := s0) o_s0 [.int s1, .int s2, .int s3, .int s4, .int s5, .int s6, .int s7] yV_X9_face g_649 (c_X9_face h) dL_law_393 rfl rfl (Nat.le_of_ble_eq_true rfl) ⟨by decide, by decide⟩ ⟨hk, hk2⟩ ⟨rfl, rfl⟩ (fun x3 S1 h g2 => ?_)
  have h := h g2
  have o_s0 := gr_ob g2 o_s0
  refine r_pop2 (pc := 396) C dL_law_396 rfl ?_
  refine r_aload_n (pc := 397) C dL_law_397 2 rfl ?_
  refine r_aload_n (pc := 398) C dL_law_398 0 rfl ?_
  refine r_iload (pc := 399) C dL_law_399 4 rfl ?_
  refine r_iconst (pc := 401) C (v := (1 : Int32)) dL_law_401 (by decide) ?_
  refine r_iadd (pc := 402) C dL_law_402 ?_
  refine r_topi (fun x4 ex4 => ?_)
  have h := h x4 ex4
  obtain ⟨i5, h⟩ := h
  refine r_scLd (pc := 403) C E i5 dL_law_403 ?_
  refine r_topi (fun x6 ex6 => ?_)
  have h := h x6 ex6
  refine r_aload_n (pc := 404) C dL_law_404 0 rfl ?_
  refine r_iload (pc := 405) C dL_law_405 4 rfl ?_
  refine r_iconst (pc := 407) C (v := (2 : Int32)) dL_law_407 (by decide) ?_
  refine r_iadd (pc := 408) C dL_law_408 ?_
  refine r_topi (fun x7 ex7 => ?_)
  have h := h x7 ex7
  obtain ⟨i8, h⟩ := h
  refine r_scLd (pc := 409) C E i8 dL_law_409 ?_
  refine r_topi (fun x9 ex9 => ?_)
  have h := h x9 ex9
  refine r_aload_n (pc := 410) C dL_law_410 0 rfl ?_
  refine r_iload (pc := 411) C dL_law_411 4 rfl ?_
  refine r_iconst (pc := 413) C (v := (3 : Int32)) dL_law_413 (by decide) ?_
  refine r_iadd (pc := 414) C dL_law_414 ?_
  refine r_topi (fun x10 ex10 => ?_)
  have h := h x10 ex10
  obtain ⟨i11, h⟩ := h
  refine r_scLd (pc := 415) C E i11 dL_law_415 ?_
  refine r_topi (fun x12 ex12 => ?_)
  have h := h x12 ex12
  refine r_aload_n (pc := 416) C dL_law_416 0 rfl ?_
  refine r_iload (pc := 417) C dL_law_417 4 rfl ?_
  refine r_iconst (pc := 419) C (v := (4 : Int32)) dL_law_419 (by decide) ?_
  refine r_iadd (pc := 420) C dL_law_420 ?_
  refine r_topi (fun x13 ex13 => ?_)
  have h := h x13 ex13
  obtain ⟨i14, h⟩ := h
  refine r_scLd (pc := 421) C E i14 dL_law_421 ?_
  refine r_topi (fun x15 ex15 => ?_)
  have h := h x15 ex15
  refine r_aload_n (pc := 422) C dL_law_422 0 rfl ?_
  refine r_iload (pc := 423) C dL_law_423 4 rfl ?_
  refine r_iconst (pc := 425) C (v := (5 : Int32)) dL_law_425 (by decide) ?_
  refine r_iadd (pc := 426) C dL_law_426 ?_
  refine r_topi (fun x16 ex16 => ?_)
  have h := h x16 ex16
  obtain ⟨i17, h⟩ := h
  refine r_scLd (pc := 427) C E i17 dL_law_427 ?_
  refine r_topi (fun x18 ex18 => ?_)
  have h := h x18 ex18
  refine r_aload_n (pc := 428) C dL_law_428 0 rfl ?_
  refine r_iload (pc := 429) C dL_law_429 4 rfl ?_
  refine r_bipush (pc := 431) C (v := (6 : Int32)) dL_law_431 (by decide) ?_
  refine r_iadd (pc := 433) C dL_law_433 ?_
  refine r_topi (fun x19 ex19 => ?_)
  have h := h x19 ex19
  obtain ⟨i20, h⟩ := h
  refine r_scLd (pc := 434) C E i20 dL_law_434 ?_
  refine r_topi (fun x21 ex21 => ?_)
  have h := h x21 ex21
  refine r_aload_n (pc := 435) C dL_law_435 0 rfl ?_
  refine r_iload (pc := 436) C dL_law_436 4 rfl ?_
  refine r_bipush (pc := 438) C (v := (7 : Int32)) dL_law_438 (by decide) ?_
  refine r_iadd (pc := 440) C dL_law_440 ?_
  refine r_topi (fun x22 ex22 => ?_)
  have h := h x22 ex22
  obtain ⟨i23, h⟩ := h
  refine r_scLd (pc := 441) C E i23 dL_law_441 ?_
  refine r_topi (fun x24 ex24 => ?_)
  have h := h x24 ex24
  refine r_if_eq (pc := 442) C (tgt := 449) dL_law_442 (by decide) (fun c25 => ?_) (fun c25 => ?_)
  · have h := h.1 c25
    refine r_iconst (pc := 449) C (v := (0 : Int32)) dL_law_449 (by decide) ?_
    exact r_sub [0, 1, 2, 3, 4] rfl (T_L_law_450 C E ht hn hX23 h)
  · have h := h.2 c25
    refine r_iconst (pc := 445) C (v := (1 : Int32)) dL_law_445 (by decide) ?_
    refine r_goto (pc := 446) C (tgt := 450) dL_law_446 (by decide) ?_
    exact r_sub [0, 1, 2, 3, 4] rfl (T_L_law_450 C E ht hn hX23 h)
def P_L_law_340 (scL : Nat) (scx : Nat → Int32) (Q : Int32 → HS → Prop) (X23 : Nat → Nat → Nat → Int32 → Nat → Nat → HS → Prop) (v1 : Nat) (v2 : Nat) (v3 : Nat) (v4 : Int32) (kk : Nat) (nn : Nat) (S : HS) : Prop := ∀ x1 : Int32, x1 = v4 + (1 : Int32) → (vp_in x1 scL ∧ ∀ x3 : Int32, x3 = scx x1.toNatClampNeg → (∀ x4 : Int32, x4 = v4 + (2 : Int32) → (vp_in x4 scL ∧ ∀ x6 : Int32, x6 = scx x4.toNatClampNeg → (∀ x7 : Int32, x7 = v4 + (3 : Int32) → (vp_in x7 scL ∧ ∀ x9 : Int32, x9 = scx x7.toNatClampNeg → (∀ x10 : Int32, x10 = v4 + (4 : Int32) → (vp_in x10 scL ∧ ∀ x12 : Int32, x12 = scx x10.toNatClampNeg → (∀ x13 : Int32, x13 = v4 + (5 : Int32) → (vp_in x13 scL ∧ ∀ x15 : Int32, x15 = scx x13.toNatClampNeg → (∀ x16 : Int32, x16 = v4 + (6 : Int32) → (vp_in x16 scL ∧ ∀ x18 : Int32, x18 = scx x16.toNatClampNeg → (∀ x19 : Int32, x19 = v4 + (7 : Int32) → (vp_in x19 scL ∧ ∀ x21 : Int32, x21 = scx x19.toNatClampNeg → (((x21 = 0) → (P_L_law_393 scL scx Q X23 v1 v2 v3 v4 v1 x3 x6 x9 x12 x15 x18 (0 : Int32) kk nn S)) ∧ ((¬ x21 = 0) → (P_L_law_393 scL scx Q X23 v1 v2 v3 v4 v1 x3 x6 x9 x12 x15 x18 (1 : Int32) kk nn S))))))))))))))))
set_option maxRecDepth 20000 in
set_option maxHeartbeats 4000000 in
theorem T_L_law_340 {X : CX} {Q : Int32 → HS → Prop} {scb scL : Nat} {scx : Nat → Int32} (C : Cx X cL_law RL 7 rm_L_law) (E : LE X scb scL scx Q) (ht : LD X) (hn : True) {X23 : Nat → Nat → Nat → Int32 → Nat → Nat → HS → Prop} (hX23 : ∀ (v1 : Nat) (v2 : Nat) (v3 : Nat) (v4 : Int32) (kk : Nat) (nn : Nat) (S : HS), X23 v1 v2 v3 v4 kk nn S → WS X 7 kk nn 23 [(0, .ref scb), (1, .ref v1), (2, .ref v2), (3, .ref v3), (4, .int v4)] [] S) {v1 : Nat} {v2 : Nat} {v3 : Nat} {v4 : Int32} {kk : Nat} {nn : Nat} {S : HS} (h : P_L_law_340 scL scx Q X23 v1 v2 v3 v4 kk nn S) : WS X 7 kk nn 340 [(0, .ref scb), (1, .ref v1), (2, .ref v2), (3, .ref v3), (4, .int v4)] [] S := by
  refine r_aload_n (pc := 340) C dL_law_340 1 rfl ?_
  refine r_aload_n (pc := 341) C dL_law_341 0 rfl ?_
  refine r_iload (pc := 342) C dL_law_342 4 rfl ?_
  refine r_iconst (pc := 344) C (v := (1 : Int32)) dL_law_344 (by decide) ?_
  refine r_iadd (pc := 345) C dL_law_345 ?_
  refine r_topi (fun x1 ex1 => ?_)
  have h := h x1 ex1
  obtain ⟨i2, h⟩ := h
  refine r_scLd (pc := 346) C E i2 dL_law_346 ?_
  refine r_topi (fun x3 ex3 => ?_)
  have h := h x3 ex3
  refine r_aload_n (pc := 347) C dL_law_347 0 rfl ?_
  refine r_iload (pc := 348) C dL_law_348 4 rfl ?_
  refine r_iconst (pc := 350) C (v := (2 : Int32)) dL_law_350 (by decide) ?_
  refine r_iadd (pc := 351) C dL_law_351 ?_
  refine r_topi (fun x4 ex4 => ?_)
  have h := h x4 ex4
  obtain ⟨i5, h⟩ := h
  refine r_scLd (pc := 352) C E i5 dL_law_352 ?_
  refine r_topi (fun x6 ex6 => ?_)
  have h := h x6 ex6
  refine r_aload_n (pc := 353) C dL_law_353 0 rfl ?_
  refine r_iload (pc := 354) C dL_law_354 4 rfl ?_
  refine r_iconst (pc := 356) C (v := (3 : Int32)) dL_law_356 (by decide) ?_
  refine r_iadd (pc := 357) C dL_law_357 ?_
  refine r_topi (fun x7 ex7 => ?_)
  have h := h x7 ex7
  obtain ⟨i8, h⟩ := h
  refine r_scLd (pc := 358) C E i8 dL_law_358 ?_
  refine r_topi (fun x9 ex9 => ?_)
  have h := h x9 ex9
  refine r_aload_n (pc := 359) C dL_law_359 0 rfl ?_
  refine r_iload (pc := 360) C dL_law_360 4 rfl ?_
  refine r_iconst (pc := 362) C (v := (4 : Int32)) dL_law_362 (by decide) ?_
  refine r_iadd (pc := 363) C dL_law_363 ?_
  refine r_topi (fun x10 ex10 => ?_)
  have h := h x10 ex10
  obtain ⟨i11, h⟩ := h
  refine r_scLd (pc := 364) C E i11 dL_law_364 ?_
  refine r_topi (fun x12 ex12 => ?_)
  have h := h x12 ex12
  refine r_aload_n (pc := 365) C dL_law_365 0 rfl ?_
  refine r_iload (pc := 366) C dL_law_366 4 rfl ?_
  refine r_iconst (pc := 368) C (v := (5 : Int32)) dL_law_368 (by decide) ?_
  refine r_iadd (pc := 369) C dL_law_369 ?_
  refine r_topi (fun x13 ex13 => ?_)
  have h := h x13 ex13
  obtain ⟨i14, h⟩ := h
  refine r_scLd (pc := 370) C E i14 dL_law_370 ?_
  refine r_topi (fun x15 ex15 => ?_)
  have h := h x15 ex15
  refine r_aload_n (pc := 371) C dL_law_371 0 rfl ?_
  refine r_iload (pc := 372) C dL_law_372 4 rfl ?_
  refine r_bipush (pc := 374) C (v := (6 : Int32)) dL_law_374 (by decide) ?_
  refine r_iadd (pc := 376) C dL_law_376 ?_
  refine r_topi (fun x16 ex16 => ?_)
  have h := h x16 ex16
  obtain ⟨i17, h⟩ := h
  refine r_scLd (pc := 377) C E i17 dL_law_377 ?_
  refine r_topi (fun x18 ex18 => ?_)
  have h := h x18 ex18
  refine r_aload_n (pc := 378) C dL_law_378 0 rfl ?_
  refine r_iload (pc := 379) C dL_law_379 4 rfl ?_
  refine r_bipush (pc := 381) C (v := (7 : Int32)) dL_law_381 (by decide) ?_
  refine r_iadd (pc := 383) C dL_law_383 ?_
  refine r_topi (fun x19 ex19 => ?_)
  have h := h x19 ex19
  obtain ⟨i20, h⟩ := h
  refine r_scLd (pc := 384) C E i20 dL_law_384 ?_
  refine r_topi (fun x21 ex21 => ?_)
  have h := h x21 ex21
  refine r_if_eq (pc := 385) C (tgt := 392) dL_law_385 (by decide) (fun c22 => ?_) (fun c22 => ?_)
  · have h := h.1 c22
    refine r_iconst (pc := 392) C (v := (0 : Int32)) dL_law_392 (by decide) ?_
    exact r_sub [0, 1, 2, 3, 4] rfl (T_L_law_393 C E ht hn hX23 h)
  · have h := h.2 c22
    refine r_iconst (pc := 388) C (v := (1 : Int32)) dL_law_388 (by decide) ?_
    refine r_goto (pc := 389) C (tgt := 393) dL_law_389 (by decide) ?_
    exact r_sub [0, 1, 2, 3, 4] rfl (T_L_law_393 C E ht hn hX23 h)
def P_L_law_553 (scL : Nat) (scx : Nat → Int32) (Q : Int32 → HS → Prop) (X23 : Nat → Nat → Nat → Int32 → Nat → Nat → HS → Prop) (v1 : Nat) (v2 : Nat) (v3 : Nat) (v4 : Int32) (s0 : Nat) (s1 : Int32) (s2 : Int32) (s3 : Int32) (s4 : Int32) (s5 : Int32) (s6 : Int32) (kk : Nat) (nn : Nat) (S : HS) : Prop := ob S s0 11 ∧ (kk ≤ rm_L_law.cells ∧ nn ≤ rm_L_law.slots ∧ (P_X11_wet s0 s1 s2 s3 s4 s5 s6 (fun x3 S1 => Gr S S1 → (P_L_law_2341 scL scx Q X23 v1 v2 v3 v4 kk nn S1)) S))
set_option maxRecDepth 20000 in
set_option maxHeartbeats 4000000 in
theorem T_L_law_553 {X : CX} {Q : Int32 → HS → Prop} {scb scL : Nat} {scx : Nat → Int32} (C : Cx X cL_law RL 7 rm_L_law) (E : LE X scb scL scx Q) (ht : LD X) (hn : True) {X23 : Nat → Nat → Nat → Int32 → Nat → Nat → HS → Prop} (hX23 : ∀ (v1 : Nat) (v2 : Nat) (v3 : Nat) (v4 : Int32) (kk : Nat) (nn : Nat) (S : HS), X23 v1 v2 v3 v4 kk nn S → WS X 7 kk nn 23 [(0, .ref scb), (1, .ref v1), (2, .ref v2), (3, .ref v3), (4, .int v4)] [] S) {v1 : Nat} {v2 : Nat} {v3 : Nat} {v4 : Int32} {s0 : Nat} {s1 : Int32} {s2 : Int32} {s3 : Int32} {s4 : Int32} {s5 : Int32} {s6 : Int32} {kk : Nat} {nn : Nat} {S : HS} (h : P_L_law_553 scL scx Q X23 v1 v2 v3 v4 s0 s1 s2 s3 s4 s5 s6 kk nn S) : WS X 7 kk nn 553 [(0, .ref scb), (1, .ref v1), (2, .ref v2), (3, .ref v3), (4, .int v4)] [.int s6, .int s5, .int s4, .int s3, .int s2, .int s1, .ref s0] S := by
  obtain ⟨o_s0, h⟩ := h
  obtain ⟨hk, hk2, h⟩ := h
  refine r_callVl0 (pc := 553) C (rest := []) (a := s0) o_s0 [.int s1, .int s2, .int s3, .int s4, .int s5, .int s6] yV_X11_wet g_1590 (c_X11_wet h) dL_law_553 rfl rfl (Nat.le_of_ble_eq_true rfl) ⟨by decide, by decide⟩ ⟨hk, hk2⟩ ⟨rfl, rfl⟩ (fun x3 S1 h g2 => ?_)
  have h := h g2
  have o_s0 := gr_ob g2 o_s0
  refine r_pop2 (pc := 556) C dL_law_556 rfl ?_
  refine r_goto (pc := 557) C (tgt := 2341) dL_law_557 (by decide) ?_
  exact r_sub [0, 1, 2, 3, 4] rfl (T_L_law_2341 C E ht hn hX23 h)
def P_L_law_503 (scL : Nat) (scx : Nat → Int32) (Q : Int32 → HS → Prop) (X23 : Nat → Nat → Nat → Int32 → Nat → Nat → HS → Prop) (v1 : Nat) (v2 : Nat) (v3 : Nat) (v4 : Int32) (s0 : Nat) (s1 : Int32) (s2 : Int32) (s3 : Int32) (s4 : Int32) (s5 : Int32) (s6 : Int32) (kk : Nat) (nn : Nat) (S : HS) : Prop := ob S s0 9 ∧ (kk ≤ rm_L_law.cells ∧ nn ≤ rm_L_law.slots ∧ (P_X9_wet s0 s1 s2 s3 s4 s5 s6 (fun x3 S1 => Gr S S1 → (∀ x4 : Int32, x4 = v4 + (1 : Int32) → (vp_in x4 scL ∧ ∀ x6 : Int32, x6 = scx x4.toNatClampNeg → (∀ x7 : Int32, x7 = v4 + (2 : Int32) → (vp_in x7 scL ∧ ∀ x9 : Int32, x9 = scx x7.toNatClampNeg → (∀ x10 : Int32, x10 = v4 + (3 : Int32) → (vp_in x10 scL ∧ ∀ x12 : Int32, x12 = scx x10.toNatClampNeg → (∀ x13 : Int32, x13 = v4 + (4 : Int32) → (vp_in x13 scL ∧ ∀ x15 : Int32, x15 = scx x13.toNatClampNeg → (∀ x16 : Int32, x16 = v4 + (5 : Int32) → (vp_in x16 scL ∧ ∀ x18 : Int32, x18 = scx x16.toNatClampNeg → (∀ x19 : Int32, x19 = v4 + (6 : Int32) → (vp_in x19 scL ∧ ∀ x21 : Int32, x21 = scx x19.toNatClampNeg → (((x21 = 0) → (P_L_law_553 scL scx Q X23 v1 v2 v3 v4 v2 x6 x9 x12 x15 x18 (0 : Int32) kk nn S1)) ∧ ((¬ x21 = 0) → (P_L_law_553 scL scx Q X23 v1 v2 v3 v4 v2 x6 x9 x12 x15 x18 (1 : Int32) kk nn S1)))))))))))))))) S))
set_option maxRecDepth 20000 in
set_option maxHeartbeats 4000000 in
theorem T_L_law_503 {X : CX} {Q : Int32 → HS → Prop} {scb scL : Nat} {scx : Nat → Int32} (C : Cx X cL_law RL 7 rm_L_law) (E : LE X scb scL scx Q) (ht : LD X) (hn : True) {X23 : Nat → Nat → Nat → Int32 → Nat → Nat → HS → Prop} (hX23 : ∀ (v1 : Nat) (v2 : Nat) (v3 : Nat) (v4 : Int32) (kk : Nat) (nn : Nat) (S : HS), X23 v1 v2 v3 v4 kk nn S → WS X 7 kk nn 23 [(0, .ref scb), (1, .ref v1), (2, .ref v2), (3, .ref v3), (4, .int v4)] [] S) {v1 : Nat} {v2 : Nat} {v3 : Nat} {v4 : Int32} {s0 : Nat} {s1 : Int32} {s2 : Int32} {s3 : Int32} {s4 : Int32} {s5 : Int32} {s6 : Int32} {kk : Nat} {nn : Nat} {S : HS} (h : P_L_law_503 scL scx Q X23 v1 v2 v3 v4 s0 s1 s2 s3 s4 s5 s6 kk nn S) : WS X 7 kk nn 503 [(0, .ref scb), (1, .ref v1), (2, .ref v2), (3, .ref v3), (4, .int v4)] [.int s6, .int s5, .int s4, .int s3, .int s2, .int s1, .ref s0] S := by
  obtain ⟨o_s0, h⟩ := h
  obtain ⟨hk, hk2, h⟩ := h
  refine r_callVl0 (pc := 503) C (rest := []) (a := s0) o_s0 [.int s1, .int s2, .int s3, .int s4, .int s5, .int s6] yV_X9_wet g_728 (c_X9_wet h) dL_law_503 rfl rfl (Nat.le_of_ble_eq_true rfl) ⟨by decide, by decide⟩ ⟨hk, hk2⟩ ⟨rfl, rfl⟩ (fun x3 S1 h g2 => ?_)
  have h := h g2
  have o_s0 := gr_ob g2 o_s0
  refine r_pop2 (pc := 506) C dL_law_506 rfl ?_
  refine r_aload_n (pc := 507) C dL_law_507 2 rfl ?_
  refine r_aload_n (pc := 508) C dL_law_508 0 rfl ?_
  refine r_iload (pc := 509) C dL_law_509 4 rfl ?_
  refine r_iconst (pc := 511) C (v := (1 : Int32)) dL_law_511 (by decide) ?_
  refine r_iadd (pc := 512) C dL_law_512 ?_
  refine r_topi (fun x4 ex4 => ?_)
  have h := h x4 ex4
  obtain ⟨i5, h⟩ := h
  refine r_scLd (pc := 513) C E i5 dL_law_513 ?_
  refine r_topi (fun x6 ex6 => ?_)
  have h := h x6 ex6
  refine r_aload_n (pc := 514) C dL_law_514 0 rfl ?_
  refine r_iload (pc := 515) C dL_law_515 4 rfl ?_
  refine r_iconst (pc := 517) C (v := (2 : Int32)) dL_law_517 (by decide) ?_
  refine r_iadd (pc := 518) C dL_law_518 ?_
  refine r_topi (fun x7 ex7 => ?_)
  have h := h x7 ex7
  obtain ⟨i8, h⟩ := h
  refine r_scLd (pc := 519) C E i8 dL_law_519 ?_
  refine r_topi (fun x9 ex9 => ?_)
  have h := h x9 ex9
  refine r_aload_n (pc := 520) C dL_law_520 0 rfl ?_
  refine r_iload (pc := 521) C dL_law_521 4 rfl ?_
  refine r_iconst (pc := 523) C (v := (3 : Int32)) dL_law_523 (by decide) ?_
  refine r_iadd (pc := 524) C dL_law_524 ?_
  refine r_topi (fun x10 ex10 => ?_)
  have h := h x10 ex10
  obtain ⟨i11, h⟩ := h
  refine r_scLd (pc := 525) C E i11 dL_law_525 ?_
  refine r_topi (fun x12 ex12 => ?_)
  have h := h x12 ex12
  refine r_aload_n (pc := 526) C dL_law_526 0 rfl ?_
  refine r_iload (pc := 527) C dL_law_527 4 rfl ?_
  refine r_iconst (pc := 529) C (v := (4 : Int32)) dL_law_529 (by decide) ?_
  refine r_iadd (pc := 530) C dL_law_530 ?_
  refine r_topi (fun x13 ex13 => ?_)
  have h := h x13 ex13
  obtain ⟨i14, h⟩ := h
  refine r_scLd (pc := 531) C E i14 dL_law_531 ?_
  refine r_topi (fun x15 ex15 => ?_)
  have h := h x15 ex15
  refine r_aload_n (pc := 532) C dL_law_532 0 rfl ?_
  refine r_iload (pc := 533) C dL_law_533 4 rfl ?_
  refine r_iconst (pc := 535) C (v := (5 : Int32)) dL_law_535 (by decide) ?_
  refine r_iadd (pc := 536) C dL_law_536 ?_
  refine r_topi (fun x16 ex16 => ?_)
  have h := h x16 ex16
  obtain ⟨i17, h⟩ := h
  refine r_scLd (pc := 537) C E i17 dL_law_537 ?_
  refine r_topi (fun x18 ex18 => ?_)
  have h := h x18 ex18
  refine r_aload_n (pc := 538) C dL_law_538 0 rfl ?_
  refine r_iload (pc := 539) C dL_law_539 4 rfl ?_
  refine r_bipush (pc := 541) C (v := (6 : Int32)) dL_law_541 (by decide) ?_
  refine r_iadd (pc := 543) C dL_law_543 ?_
  refine r_topi (fun x19 ex19 => ?_)
  have h := h x19 ex19
  obtain ⟨i20, h⟩ := h
  refine r_scLd (pc := 544) C E i20 dL_law_544 ?_
  refine r_topi (fun x21 ex21 => ?_)
  have h := h x21 ex21
  refine r_if_eq (pc := 545) C (tgt := 552) dL_law_545 (by decide) (fun c22 => ?_) (fun c22 => ?_)
  · have h := h.1 c22
    refine r_iconst (pc := 552) C (v := (0 : Int32)) dL_law_552 (by decide) ?_
    exact r_sub [0, 1, 2, 3, 4] rfl (T_L_law_553 C E ht hn hX23 h)
  · have h := h.2 c22
    refine r_iconst (pc := 548) C (v := (1 : Int32)) dL_law_548 (by decide) ?_
    refine r_goto (pc := 549) C (tgt := 553) dL_law_549 (by decide) ?_
    exact r_sub [0, 1, 2, 3, 4] rfl (T_L_law_553 C E ht hn hX23 h)
def P_L_law_457 (scL : Nat) (scx : Nat → Int32) (Q : Int32 → HS → Prop) (X23 : Nat → Nat → Nat → Int32 → Nat → Nat → HS → Prop) (v1 : Nat) (v2 : Nat) (v3 : Nat) (v4 : Int32) (kk : Nat) (nn : Nat) (S : HS) : Prop := ∀ x1 : Int32, x1 = v4 + (1 : Int32) → (vp_in x1 scL ∧ ∀ x3 : Int32, x3 = scx x1.toNatClampNeg → (∀ x4 : Int32, x4 = v4 + (2 : Int32) → (vp_in x4 scL ∧ ∀ x6 : Int32, x6 = scx x4.toNatClampNeg → (∀ x7 : Int32, x7 = v4 + (3 : Int32) → (vp_in x7 scL ∧ ∀ x9 : Int32, x9 = scx x7.toNatClampNeg → (∀ x10 : Int32, x10 = v4 + (4 : Int32) → (vp_in x10 scL ∧ ∀ x12 : Int32, x12 = scx x10.toNatClampNeg → (∀ x13 : Int32, x13 = v4 + (5 : Int32) → (vp_in x13 scL ∧ ∀ x15 : Int32, x15 = scx x13.toNatClampNeg → (∀ x16 : Int32, x16 = v4 + (6 : Int32) → (vp_in x16 scL ∧ ∀ x18 : Int32, x18 = scx x16.toNatClampNeg → (((x18 = 0) → (P_L_law_503 scL scx Q X23 v1 v2 v3 v4 v1 x3 x6 x9 x12 x15 (0 : Int32) kk nn S)) ∧ ((¬ x18 = 0) → (P_L_law_503 scL scx Q X23 v1 v2 v3 v4 v1 x3 x6 x9 x12 x15 (1 : Int32) kk nn S))))))))))))))
set_option maxRecDepth 20000 in
set_option maxHeartbeats 4000000 in
theorem T_L_law_457 {X : CX} {Q : Int32 → HS → Prop} {scb scL : Nat} {scx : Nat → Int32} (C : Cx X cL_law RL 7 rm_L_law) (E : LE X scb scL scx Q) (ht : LD X) (hn : True) {X23 : Nat → Nat → Nat → Int32 → Nat → Nat → HS → Prop} (hX23 : ∀ (v1 : Nat) (v2 : Nat) (v3 : Nat) (v4 : Int32) (kk : Nat) (nn : Nat) (S : HS), X23 v1 v2 v3 v4 kk nn S → WS X 7 kk nn 23 [(0, .ref scb), (1, .ref v1), (2, .ref v2), (3, .ref v3), (4, .int v4)] [] S) {v1 : Nat} {v2 : Nat} {v3 : Nat} {v4 : Int32} {kk : Nat} {nn : Nat} {S : HS} (h : P_L_law_457 scL scx Q X23 v1 v2 v3 v4 kk nn S) : WS X 7 kk nn 457 [(0, .ref scb), (1, .ref v1), (2, .ref v2), (3, .ref v3), (4, .int v4)] [] S := by
  refine r_aload_n (pc := 457) C dL_law_457 1 rfl ?_
  refine r_aload_n (pc := 458) C dL_law_458 0 rfl ?_
  refine r_iload (pc := 459) C dL_law_459 4 rfl ?_
  refine r_iconst (pc := 461) C (v := (1 : Int32)) dL_law_461 (by decide) ?_
  refine r_iadd (pc := 462) C dL_law_462 ?_
  refine r_topi (fun x1 ex1 => ?_)
  have h := h x1 ex1
  obtain ⟨i2, h⟩ := h
  refine r_scLd (pc := 463) C E i2 dL_law_463 ?_
  refine r_topi (fun x3 ex3 => ?_)
  have h := h x3 ex3
  refine r_aload_n (pc := 464) C dL_law_464 0 rfl ?_
  refine r_iload (pc := 465) C dL_law_465 4 rfl ?_
  refine r_iconst (pc := 467) C (v := (2 : Int32)) dL_law_467 (by decide) ?_
  refine r_iadd (pc := 468) C dL_law_468 ?_
  refine r_topi (fun x4 ex4 => ?_)
  have h := h x4 ex4
  obtain ⟨i5, h⟩ := h
  refine r_scLd (pc := 469) C E i5 dL_law_469 ?_
  refine r_topi (fun x6 ex6 => ?_)
  have h := h x6 ex6
  refine r_aload_n (pc := 470) C dL_law_470 0 rfl ?_
  refine r_iload (pc := 471) C dL_law_471 4 rfl ?_
  refine r_iconst (pc := 473) C (v := (3 : Int32)) dL_law_473 (by decide) ?_
  refine r_iadd (pc := 474) C dL_law_474 ?_
  refine r_topi (fun x7 ex7 => ?_)
  have h := h x7 ex7
  obtain ⟨i8, h⟩ := h
  refine r_scLd (pc := 475) C E i8 dL_law_475 ?_
  refine r_topi (fun x9 ex9 => ?_)
  have h := h x9 ex9
  refine r_aload_n (pc := 476) C dL_law_476 0 rfl ?_
  refine r_iload (pc := 477) C dL_law_477 4 rfl ?_
  refine r_iconst (pc := 479) C (v := (4 : Int32)) dL_law_479 (by decide) ?_
  refine r_iadd (pc := 480) C dL_law_480 ?_
  refine r_topi (fun x10 ex10 => ?_)
  have h := h x10 ex10
  obtain ⟨i11, h⟩ := h
  refine r_scLd (pc := 481) C E i11 dL_law_481 ?_
  refine r_topi (fun x12 ex12 => ?_)
  have h := h x12 ex12
  refine r_aload_n (pc := 482) C dL_law_482 0 rfl ?_
  refine r_iload (pc := 483) C dL_law_483 4 rfl ?_
  refine r_iconst (pc := 485) C (v := (5 : Int32)) dL_law_485 (by decide) ?_
  refine r_iadd (pc := 486) C dL_law_486 ?_
  refine r_topi (fun x13 ex13 => ?_)
  have h := h x13 ex13
  obtain ⟨i14, h⟩ := h
  refine r_scLd (pc := 487) C E i14 dL_law_487 ?_
  refine r_topi (fun x15 ex15 => ?_)
  have h := h x15 ex15
  refine r_aload_n (pc := 488) C dL_law_488 0 rfl ?_
  refine r_iload (pc := 489) C dL_law_489 4 rfl ?_
  refine r_bipush (pc := 491) C (v := (6 : Int32)) dL_law_491 (by decide) ?_
  refine r_iadd (pc := 493) C dL_law_493 ?_
  refine r_topi (fun x16 ex16 => ?_)
  have h := h x16 ex16
  obtain ⟨i17, h⟩ := h
  refine r_scLd (pc := 494) C E i17 dL_law_494 ?_
  refine r_topi (fun x18 ex18 => ?_)
  have h := h x18 ex18
  refine r_if_eq (pc := 495) C (tgt := 502) dL_law_495 (by decide) (fun c19 => ?_) (fun c19 => ?_)
  · have h := h.1 c19
    refine r_iconst (pc := 502) C (v := (0 : Int32)) dL_law_502 (by decide) ?_
    exact r_sub [0, 1, 2, 3, 4] rfl (T_L_law_503 C E ht hn hX23 h)
  · have h := h.2 c19
    refine r_iconst (pc := 498) C (v := (1 : Int32)) dL_law_498 (by decide) ?_
    refine r_goto (pc := 499) C (tgt := 503) dL_law_499 (by decide) ?_
    exact r_sub [0, 1, 2, 3, 4] rfl (T_L_law_503 C E ht hn hX23 h)
def P_L_law_656 (scL : Nat) (scx : Nat → Int32) (Q : Int32 → HS → Prop) (X23 : Nat → Nat → Nat → Int32 → Nat → Nat → HS → Prop) (v1 : Nat) (v2 : Nat) (v3 : Nat) (v4 : Int32) (s0 : Nat) (s1 : Int32) (s2 : Int32) (s3 : Int32) (s4 : Int32) (s5 : Int32) (s6 : Int32) (kk : Nat) (nn : Nat) (S : HS) : Prop := ob S s0 11 ∧ (kk ≤ rm_L_law.cells ∧ nn ≤ rm_L_law.slots ∧ (P_X11_mean s0 s1 s2 s3 s4 s5 s6 (fun x3 S1 => Gr S S1 → (P_L_law_2341 scL scx Q X23 v1 v2 v3 v4 kk nn S1)) S))
set_option maxRecDepth 20000 in
set_option maxHeartbeats 4000000 in
theorem T_L_law_656 {X : CX} {Q : Int32 → HS → Prop} {scb scL : Nat} {scx : Nat → Int32} (C : Cx X cL_law RL 7 rm_L_law) (E : LE X scb scL scx Q) (ht : LD X) (hn : True) {X23 : Nat → Nat → Nat → Int32 → Nat → Nat → HS → Prop} (hX23 : ∀ (v1 : Nat) (v2 : Nat) (v3 : Nat) (v4 : Int32) (kk : Nat) (nn : Nat) (S : HS), X23 v1 v2 v3 v4 kk nn S → WS X 7 kk nn 23 [(0, .ref scb), (1, .ref v1), (2, .ref v2), (3, .ref v3), (4, .int v4)] [] S) {v1 : Nat} {v2 : Nat} {v3 : Nat} {v4 : Int32} {s0 : Nat} {s1 : Int32} {s2 : Int32} {s3 : Int32} {s4 : Int32} {s5 : Int32} {s6 : Int32} {kk : Nat} {nn : Nat} {S : HS} (h : P_L_law_656 scL scx Q X23 v1 v2 v3 v4 s0 s1 s2 s3 s4 s5 s6 kk nn S) : WS X 7 kk nn 656 [(0, .ref scb), (1, .ref v1), (2, .ref v2), (3, .ref v3), (4, .int v4)] [.int s6, .int s5, .int s4, .int s3, .int s2, .int s1, .ref s0] S := by
  obtain ⟨o_s0, h⟩ := h
  obtain ⟨hk, hk2, h⟩ := h
  refine r_callVl0 (pc := 656) C (rest := []) (a := s0) o_s0 [.int s1, .int s2, .int s3, .int s4, .int s5, .int s6] yV_X11_mean g_1598 (c_X11_mean h) dL_law_656 rfl rfl (Nat.le_of_ble_eq_true rfl) ⟨by decide, by decide⟩ ⟨hk, hk2⟩ ⟨rfl, rfl⟩ (fun x3 S1 h g2 => ?_)
  have h := h g2
  have o_s0 := gr_ob g2 o_s0
  refine r_pop2 (pc := 659) C dL_law_659 rfl ?_
  refine r_goto (pc := 660) C (tgt := 2341) dL_law_660 (by decide) ?_
  exact r_sub [0, 1, 2, 3, 4] rfl (T_L_law_2341 C E ht hn hX23 h)
def P_L_law_606 (scL : Nat) (scx : Nat → Int32) (Q : Int32 → HS → Prop) (X23 : Nat → Nat → Nat → Int32 → Nat → Nat → HS → Prop) (v1 : Nat) (v2 : Nat) (v3 : Nat) (v4 : Int32) (s0 : Nat) (s1 : Int32) (s2 : Int32) (s3 : Int32) (s4 : Int32) (s5 : Int32) (s6 : Int32) (kk : Nat) (nn : Nat) (S : HS) : Prop := ob S s0 9 ∧ (kk ≤ rm_L_law.cells ∧ nn ≤ rm_L_law.slots ∧ (P_X9_mean s0 s1 s2 s3 s4 s5 s6 (fun x3 S1 => Gr S S1 → (∀ x4 : Int32, x4 = v4 + (1 : Int32) → (vp_in x4 scL ∧ ∀ x6 : Int32, x6 = scx x4.toNatClampNeg → (∀ x7 : Int32, x7 = v4 + (2 : Int32) → (vp_in x7 scL ∧ ∀ x9 : Int32, x9 = scx x7.toNatClampNeg → (∀ x10 : Int32, x10 = v4 + (3 : Int32) → (vp_in x10 scL ∧ ∀ x12 : Int32, x12 = scx x10.toNatClampNeg → (∀ x13 : Int32, x13 = v4 + (4 : Int32) → (vp_in x13 scL ∧ ∀ x15 : Int32, x15 = scx x13.toNatClampNeg → (∀ x16 : Int32, x16 = v4 + (5 : Int32) → (vp_in x16 scL ∧ ∀ x18 : Int32, x18 = scx x16.toNatClampNeg → (∀ x19 : Int32, x19 = v4 + (6 : Int32) → (vp_in x19 scL ∧ ∀ x21 : Int32, x21 = scx x19.toNatClampNeg → (((x21 = 0) → (P_L_law_656 scL scx Q X23 v1 v2 v3 v4 v2 x6 x9 x12 x15 x18 (0 : Int32) kk nn S1)) ∧ ((¬ x21 = 0) → (P_L_law_656 scL scx Q X23 v1 v2 v3 v4 v2 x6 x9 x12 x15 x18 (1 : Int32) kk nn S1)))))))))))))))) S))
set_option maxRecDepth 20000 in
set_option maxHeartbeats 4000000 in
theorem T_L_law_606 {X : CX} {Q : Int32 → HS → Prop} {scb scL : Nat} {scx : Nat → Int32} (C : Cx X cL_law RL 7 rm_L_law) (E : LE X scb scL scx Q) (ht : LD X) (hn : True) {X23 : Nat → Nat → Nat → Int32 → Nat → Nat → HS → Prop} (hX23 : ∀ (v1 : Nat) (v2 : Nat) (v3 : Nat) (v4 : Int32) (kk : Nat) (nn : Nat) (S : HS), X23 v1 v2 v3 v4 kk nn S → WS X 7 kk nn 23 [(0, .ref scb), (1, .ref v1), (2, .ref v2), (3, .ref v3), (4, .int v4)] [] S) {v1 : Nat} {v2 : Nat} {v3 : Nat} {v4 : Int32} {s0 : Nat} {s1 : Int32} {s2 : Int32} {s3 : Int32} {s4 : Int32} {s5 : Int32} {s6 : Int32} {kk : Nat} {nn : Nat} {S : HS} (h : P_L_law_606 scL scx Q X23 v1 v2 v3 v4 s0 s1 s2 s3 s4 s5 s6 kk nn S) : WS X 7 kk nn 606 [(0, .ref scb), (1, .ref v1), (2, .ref v2), (3, .ref v3), (4, .int v4)] [.int s6, .int s5, .int s4, .int s3, .int s2, .int s1, .ref s0] S := by
  obtain ⟨o_s0, h⟩ := h
  obtain ⟨hk, hk2, h⟩ := h
  refine r_callVl0 (pc := 606) C (rest := []) (a := s0) o_s0 [.int s1, .int s2, .int s3, .int s4, .int s5, .int s6] yV_X9_mean g_732 (c_X9_mean h) dL_law_606 rfl rfl (Nat.le_of_ble_eq_true rfl) ⟨by decide, by decide⟩ ⟨hk, hk2⟩ ⟨rfl, rfl⟩ (fun x3 S1 h g2 => ?_)
  have h := h g2
  have o_s0 := gr_ob g2 o_s0
  refine r_pop2 (pc := 609) C dL_law_609 rfl ?_
  refine r_aload_n (pc := 610) C dL_law_610 2 rfl ?_
  refine r_aload_n (pc := 611) C dL_law_611 0 rfl ?_
  refine r_iload (pc := 612) C dL_law_612 4 rfl ?_
  refine r_iconst (pc := 614) C (v := (1 : Int32)) dL_law_614 (by decide) ?_
  refine r_iadd (pc := 615) C dL_law_615 ?_
  refine r_topi (fun x4 ex4 => ?_)
  have h := h x4 ex4
  obtain ⟨i5, h⟩ := h
  refine r_scLd (pc := 616) C E i5 dL_law_616 ?_
  refine r_topi (fun x6 ex6 => ?_)
  have h := h x6 ex6
  refine r_aload_n (pc := 617) C dL_law_617 0 rfl ?_
  refine r_iload (pc := 618) C dL_law_618 4 rfl ?_
  refine r_iconst (pc := 620) C (v := (2 : Int32)) dL_law_620 (by decide) ?_
  refine r_iadd (pc := 621) C dL_law_621 ?_
  refine r_topi (fun x7 ex7 => ?_)
  have h := h x7 ex7
  obtain ⟨i8, h⟩ := h
  refine r_scLd (pc := 622) C E i8 dL_law_622 ?_
  refine r_topi (fun x9 ex9 => ?_)
  have h := h x9 ex9
  refine r_aload_n (pc := 623) C dL_law_623 0 rfl ?_
  refine r_iload (pc := 624) C dL_law_624 4 rfl ?_
  refine r_iconst (pc := 626) C (v := (3 : Int32)) dL_law_626 (by decide) ?_
  refine r_iadd (pc := 627) C dL_law_627 ?_
  refine r_topi (fun x10 ex10 => ?_)
  have h := h x10 ex10
  obtain ⟨i11, h⟩ := h
  refine r_scLd (pc := 628) C E i11 dL_law_628 ?_
  refine r_topi (fun x12 ex12 => ?_)
  have h := h x12 ex12
  refine r_aload_n (pc := 629) C dL_law_629 0 rfl ?_
  refine r_iload (pc := 630) C dL_law_630 4 rfl ?_
  refine r_iconst (pc := 632) C (v := (4 : Int32)) dL_law_632 (by decide) ?_
  refine r_iadd (pc := 633) C dL_law_633 ?_
  refine r_topi (fun x13 ex13 => ?_)
  have h := h x13 ex13
  obtain ⟨i14, h⟩ := h
  refine r_scLd (pc := 634) C E i14 dL_law_634 ?_
  refine r_topi (fun x15 ex15 => ?_)
  have h := h x15 ex15
  refine r_aload_n (pc := 635) C dL_law_635 0 rfl ?_
  refine r_iload (pc := 636) C dL_law_636 4 rfl ?_
  refine r_iconst (pc := 638) C (v := (5 : Int32)) dL_law_638 (by decide) ?_
  refine r_iadd (pc := 639) C dL_law_639 ?_
  refine r_topi (fun x16 ex16 => ?_)
  have h := h x16 ex16
  obtain ⟨i17, h⟩ := h
  refine r_scLd (pc := 640) C E i17 dL_law_640 ?_
  refine r_topi (fun x18 ex18 => ?_)
  have h := h x18 ex18
  refine r_aload_n (pc := 641) C dL_law_641 0 rfl ?_
  refine r_iload (pc := 642) C dL_law_642 4 rfl ?_
  refine r_bipush (pc := 644) C (v := (6 : Int32)) dL_law_644 (by decide) ?_
  refine r_iadd (pc := 646) C dL_law_646 ?_
  refine r_topi (fun x19 ex19 => ?_)
  have h := h x19 ex19
  obtain ⟨i20, h⟩ := h
  refine r_scLd (pc := 647) C E i20 dL_law_647 ?_
  refine r_topi (fun x21 ex21 => ?_)
  have h := h x21 ex21
  refine r_if_eq (pc := 648) C (tgt := 655) dL_law_648 (by decide) (fun c22 => ?_) (fun c22 => ?_)
  · have h := h.1 c22
    refine r_iconst (pc := 655) C (v := (0 : Int32)) dL_law_655 (by decide) ?_
    exact r_sub [0, 1, 2, 3, 4] rfl (T_L_law_656 C E ht hn hX23 h)
  · have h := h.2 c22
    refine r_iconst (pc := 651) C (v := (1 : Int32)) dL_law_651 (by decide) ?_
    refine r_goto (pc := 652) C (tgt := 656) dL_law_652 (by decide) ?_
    exact r_sub [0, 1, 2, 3, 4] rfl (T_L_law_656 C E ht hn hX23 h)
def P_L_law_560 (scL : Nat) (scx : Nat → Int32) (Q : Int32 → HS → Prop) (X23 : Nat → Nat → Nat → Int32 → Nat → Nat → HS → Prop) (v1 : Nat) (v2 : Nat) (v3 : Nat) (v4 : Int32) (kk : Nat) (nn : Nat) (S : HS) : Prop := ∀ x1 : Int32, x1 = v4 + (1 : Int32) → (vp_in x1 scL ∧ ∀ x3 : Int32, x3 = scx x1.toNatClampNeg → (∀ x4 : Int32, x4 = v4 + (2 : Int32) → (vp_in x4 scL ∧ ∀ x6 : Int32, x6 = scx x4.toNatClampNeg → (∀ x7 : Int32, x7 = v4 + (3 : Int32) → (vp_in x7 scL ∧ ∀ x9 : Int32, x9 = scx x7.toNatClampNeg → (∀ x10 : Int32, x10 = v4 + (4 : Int32) → (vp_in x10 scL ∧ ∀ x12 : Int32, x12 = scx x10.toNatClampNeg → (∀ x13 : Int32, x13 = v4 + (5 : Int32) → (vp_in x13 scL ∧ ∀ x15 : Int32, x15 = scx x13.toNatClampNeg → (∀ x16 : Int32, x16 = v4 + (6 : Int32) → (vp_in x16 scL ∧ ∀ x18 : Int32, x18 = scx x16.toNatClampNeg → (((x18 = 0) → (P_L_law_606 scL scx Q X23 v1 v2 v3 v4 v1 x3 x6 x9 x12 x15 (0 : Int32) kk nn S)) ∧ ((¬ x18 = 0) → (P_L_law_606 scL scx Q X23 v1 v2 v3 v4 v1 x3 x6 x9 x12 x15 (1 : Int32) kk nn S))))))))))))))
set_option maxRecDepth 20000 in
set_option maxHeartbeats 4000000 in
theorem T_L_law_560 {X : CX} {Q : Int32 → HS → Prop} {scb scL : Nat} {scx : Nat → Int32} (C : Cx X cL_law RL 7 rm_L_law) (E : LE X scb scL scx Q) (ht : LD X) (hn : True) {X23 : Nat → Nat → Nat → Int32 → Nat → Nat → HS → Prop} (hX23 : ∀ (v1 : Nat) (v2 : Nat) (v3 : Nat) (v4 : Int32) (kk : Nat) (nn : Nat) (S : HS), X23 v1 v2 v3 v4 kk nn S → WS X 7 kk nn 23 [(0, .ref scb), (1, .ref v1), (2, .ref v2), (3, .ref v3), (4, .int v4)] [] S) {v1 : Nat} {v2 : Nat} {v3 : Nat} {v4 : Int32} {kk : Nat} {nn : Nat} {S : HS} (h : P_L_law_560 scL scx Q X23 v1 v2 v3 v4 kk nn S) : WS X 7 kk nn 560 [(0, .ref scb), (1, .ref v1), (2, .ref v2), (3, .ref v3), (4, .int v4)] [] S := by
  refine r_aload_n (pc := 560) C dL_law_560 1 rfl ?_
  refine r_aload_n (pc := 561) C dL_law_561 0 rfl ?_
  refine r_iload (pc := 562) C dL_law_562 4 rfl ?_
  refine r_iconst (pc := 564) C (v := (1 : Int32)) dL_law_564 (by decide) ?_
  refine r_iadd (pc := 565) C dL_law_565 ?_
  refine r_topi (fun x1 ex1 => ?_)
  have h := h x1 ex1
  obtain ⟨i2, h⟩ := h
  refine r_scLd (pc := 566) C E i2 dL_law_566 ?_
  refine r_topi (fun x3 ex3 => ?_)
  have h := h x3 ex3
  refine r_aload_n (pc := 567) C dL_law_567 0 rfl ?_
  refine r_iload (pc := 568) C dL_law_568 4 rfl ?_
  refine r_iconst (pc := 570) C (v := (2 : Int32)) dL_law_570 (by decide) ?_
  refine r_iadd (pc := 571) C dL_law_571 ?_
  refine r_topi (fun x4 ex4 => ?_)
  have h := h x4 ex4
  obtain ⟨i5, h⟩ := h
  refine r_scLd (pc := 572) C E i5 dL_law_572 ?_
  refine r_topi (fun x6 ex6 => ?_)
  have h := h x6 ex6
  refine r_aload_n (pc := 573) C dL_law_573 0 rfl ?_
  refine r_iload (pc := 574) C dL_law_574 4 rfl ?_
  refine r_iconst (pc := 576) C (v := (3 : Int32)) dL_law_576 (by decide) ?_
  refine r_iadd (pc := 577) C dL_law_577 ?_
  refine r_topi (fun x7 ex7 => ?_)
  have h := h x7 ex7
  obtain ⟨i8, h⟩ := h
  refine r_scLd (pc := 578) C E i8 dL_law_578 ?_
  refine r_topi (fun x9 ex9 => ?_)
  have h := h x9 ex9
  refine r_aload_n (pc := 579) C dL_law_579 0 rfl ?_
  refine r_iload (pc := 580) C dL_law_580 4 rfl ?_
  refine r_iconst (pc := 582) C (v := (4 : Int32)) dL_law_582 (by decide) ?_
  refine r_iadd (pc := 583) C dL_law_583 ?_
  refine r_topi (fun x10 ex10 => ?_)
  have h := h x10 ex10
  obtain ⟨i11, h⟩ := h
  refine r_scLd (pc := 584) C E i11 dL_law_584 ?_
  refine r_topi (fun x12 ex12 => ?_)
  have h := h x12 ex12
  refine r_aload_n (pc := 585) C dL_law_585 0 rfl ?_
  refine r_iload (pc := 586) C dL_law_586 4 rfl ?_
  refine r_iconst (pc := 588) C (v := (5 : Int32)) dL_law_588 (by decide) ?_
  refine r_iadd (pc := 589) C dL_law_589 ?_
  refine r_topi (fun x13 ex13 => ?_)
  have h := h x13 ex13
  obtain ⟨i14, h⟩ := h
  refine r_scLd (pc := 590) C E i14 dL_law_590 ?_
  refine r_topi (fun x15 ex15 => ?_)
  have h := h x15 ex15
  refine r_aload_n (pc := 591) C dL_law_591 0 rfl ?_
  refine r_iload (pc := 592) C dL_law_592 4 rfl ?_
  refine r_bipush (pc := 594) C (v := (6 : Int32)) dL_law_594 (by decide) ?_
  refine r_iadd (pc := 596) C dL_law_596 ?_
  refine r_topi (fun x16 ex16 => ?_)
  have h := h x16 ex16
  obtain ⟨i17, h⟩ := h
  refine r_scLd (pc := 597) C E i17 dL_law_597 ?_
  refine r_topi (fun x18 ex18 => ?_)
  have h := h x18 ex18
  refine r_if_eq (pc := 598) C (tgt := 605) dL_law_598 (by decide) (fun c19 => ?_) (fun c19 => ?_)
  · have h := h.1 c19
    refine r_iconst (pc := 605) C (v := (0 : Int32)) dL_law_605 (by decide) ?_
    exact r_sub [0, 1, 2, 3, 4] rfl (T_L_law_606 C E ht hn hX23 h)
  · have h := h.2 c19
    refine r_iconst (pc := 601) C (v := (1 : Int32)) dL_law_601 (by decide) ?_
    refine r_goto (pc := 602) C (tgt := 606) dL_law_602 (by decide) ?_
    exact r_sub [0, 1, 2, 3, 4] rfl (T_L_law_606 C E ht hn hX23 h)
def P_L_law_663 (scL : Nat) (scx : Nat → Int32) (Q : Int32 → HS → Prop) (X23 : Nat → Nat → Nat → Int32 → Nat → Nat → HS → Prop) (v1 : Nat) (v2 : Nat) (v3 : Nat) (v4 : Int32) (kk : Nat) (nn : Nat) (S : HS) : Prop := ∀ x1 : Int32, x1 = v4 + (1 : Int32) → (vp_in x1 scL ∧ ∀ x3 : Int32, x3 = scx x1.toNatClampNeg → (∀ x4 : Int32, x4 = v4 + (2 : Int32) → (vp_in x4 scL ∧ ∀ x6 : Int32, x6 = scx x4.toNatClampNeg → (∀ x7 : Int32, x7 = v4 + (3 : Int32) → (vp_in x7 scL ∧ ∀ x9 : Int32, x9 = scx x7.toNatClampNeg → (ob S v1 9 ∧ (kk ≤ rm_L_law.cells ∧ nn ≤ rm_L_law.slots ∧ (P_X9_minutes v1 x3 x6 x9 (fun x12 S10 => Gr S S10 → (∀ x13 : Int32, x13 = v4 + (1 : Int32) → (vp_in x13 scL ∧ ∀ x15 : Int32, x15 = scx x13.toNatClampNeg → (∀ x16 : Int32, x16 = v4 + (2 : Int32) → (vp_in x16 scL ∧ ∀ x18 : Int32, x18 = scx x16.toNatClampNeg → (∀ x19 : Int32, x19 = v4 + (3 : Int32) → (vp_in x19 scL ∧ ∀ x21 : Int32, x21 = scx x19.toNatClampNeg → (ob S10 v2 11 ∧ (kk ≤ rm_L_law.cells ∧ nn ≤ rm_L_law.slots ∧ (P_X11_minutes v2 x15 x18 x21 (fun x24 S22 => Gr S10 S22 → (P_L_law_2341 scL scx Q X23 v1 v2 v3 v4 kk nn S22)) S10)))))))))) S))))))))
set_option maxRecDepth 20000 in
set_option maxHeartbeats 4000000 in
theorem T_L_law_663 {X : CX} {Q : Int32 → HS → Prop} {scb scL : Nat} {scx : Nat → Int32} (C : Cx X cL_law RL 7 rm_L_law) (E : LE X scb scL scx Q) (ht : LD X) (hn : True) {X23 : Nat → Nat → Nat → Int32 → Nat → Nat → HS → Prop} (hX23 : ∀ (v1 : Nat) (v2 : Nat) (v3 : Nat) (v4 : Int32) (kk : Nat) (nn : Nat) (S : HS), X23 v1 v2 v3 v4 kk nn S → WS X 7 kk nn 23 [(0, .ref scb), (1, .ref v1), (2, .ref v2), (3, .ref v3), (4, .int v4)] [] S) {v1 : Nat} {v2 : Nat} {v3 : Nat} {v4 : Int32} {kk : Nat} {nn : Nat} {S : HS} (h : P_L_law_663 scL scx Q X23 v1 v2 v3 v4 kk nn S) : WS X 7 kk nn 663 [(0, .ref scb), (1, .ref v1), (2, .ref v2), (3, .ref v3), (4, .int v4)] [] S := by
  refine r_aload_n (pc := 663) C dL_law_663 1 rfl ?_
  refine r_aload_n (pc := 664) C dL_law_664 0 rfl ?_
  refine r_iload (pc := 665) C dL_law_665 4 rfl ?_
  refine r_iconst (pc := 667) C (v := (1 : Int32)) dL_law_667 (by decide) ?_
  refine r_iadd (pc := 668) C dL_law_668 ?_
  refine r_topi (fun x1 ex1 => ?_)
  have h := h x1 ex1
  obtain ⟨i2, h⟩ := h
  refine r_scLd (pc := 669) C E i2 dL_law_669 ?_
  refine r_topi (fun x3 ex3 => ?_)
  have h := h x3 ex3
  refine r_aload_n (pc := 670) C dL_law_670 0 rfl ?_
  refine r_iload (pc := 671) C dL_law_671 4 rfl ?_
  refine r_iconst (pc := 673) C (v := (2 : Int32)) dL_law_673 (by decide) ?_
  refine r_iadd (pc := 674) C dL_law_674 ?_
  refine r_topi (fun x4 ex4 => ?_)
  have h := h x4 ex4
  obtain ⟨i5, h⟩ := h
  refine r_scLd (pc := 675) C E i5 dL_law_675 ?_
  refine r_topi (fun x6 ex6 => ?_)
  have h := h x6 ex6
  refine r_aload_n (pc := 676) C dL_law_676 0 rfl ?_
  refine r_iload (pc := 677) C dL_law_677 4 rfl ?_
  refine r_iconst (pc := 679) C (v := (3 : Int32)) dL_law_679 (by decide) ?_
  refine r_iadd (pc := 680) C dL_law_680 ?_
  refine r_topi (fun x7 ex7 => ?_)
  have h := h x7 ex7
  obtain ⟨i8, h⟩ := h
  refine r_scLd (pc := 681) C E i8 dL_law_681 ?_
  refine r_topi (fun x9 ex9 => ?_)
  have h := h x9 ex9
  obtain ⟨o_v1, h⟩ := h
  obtain ⟨hk, hk2, h⟩ := h
  refine r_callVi0 (pc := 682) C (rest := []) (a := v1) o_v1 [.int x3, .int x6, .int x9] yV_X9_minutes g_737 (c_X9_minutes h) dL_law_682 rfl rfl (Nat.le_of_ble_eq_true rfl) ⟨by decide, by decide⟩ ⟨hk, hk2⟩ ⟨rfl, rfl⟩ (fun x12 S10 h g11 => ?_)
  have h := h g11
  have o_v1 := gr_ob g11 o_v1
  refine r_pop (pc := 685) C dL_law_685 rfl ?_
  refine r_aload_n (pc := 686) C dL_law_686 2 rfl ?_
  refine r_aload_n (pc := 687) C dL_law_687 0 rfl ?_
  refine r_iload (pc := 688) C dL_law_688 4 rfl ?_
  refine r_iconst (pc := 690) C (v := (1 : Int32)) dL_law_690 (by decide) ?_
  refine r_iadd (pc := 691) C dL_law_691 ?_
  refine r_topi (fun x13 ex13 => ?_)
  have h := h x13 ex13
  obtain ⟨i14, h⟩ := h
  refine r_scLd (pc := 692) C E i14 dL_law_692 ?_
  refine r_topi (fun x15 ex15 => ?_)
  have h := h x15 ex15
  refine r_aload_n (pc := 693) C dL_law_693 0 rfl ?_
  refine r_iload (pc := 694) C dL_law_694 4 rfl ?_
  refine r_iconst (pc := 696) C (v := (2 : Int32)) dL_law_696 (by decide) ?_
  refine r_iadd (pc := 697) C dL_law_697 ?_
  refine r_topi (fun x16 ex16 => ?_)
  have h := h x16 ex16
  obtain ⟨i17, h⟩ := h
  refine r_scLd (pc := 698) C E i17 dL_law_698 ?_
  refine r_topi (fun x18 ex18 => ?_)
  have h := h x18 ex18
  refine r_aload_n (pc := 699) C dL_law_699 0 rfl ?_
  refine r_iload (pc := 700) C dL_law_700 4 rfl ?_
  refine r_iconst (pc := 702) C (v := (3 : Int32)) dL_law_702 (by decide) ?_
  refine r_iadd (pc := 703) C dL_law_703 ?_
  refine r_topi (fun x19 ex19 => ?_)
  have h := h x19 ex19
  obtain ⟨i20, h⟩ := h
  refine r_scLd (pc := 704) C E i20 dL_law_704 ?_
  refine r_topi (fun x21 ex21 => ?_)
  have h := h x21 ex21
  obtain ⟨o_v2, h⟩ := h
  obtain ⟨hk, hk2, h⟩ := h
  refine r_callVi0 (pc := 705) C (rest := []) (a := v2) o_v2 [.int x15, .int x18, .int x21] yV_X11_minutes g_1603 (c_X11_minutes h) dL_law_705 rfl rfl (Nat.le_of_ble_eq_true rfl) ⟨by decide, by decide⟩ ⟨hk, hk2⟩ ⟨rfl, rfl⟩ (fun x24 S22 h g23 => ?_)
  have h := h g23
  have o_v1 := gr_ob g23 o_v1
  have o_v2 := gr_ob g23 o_v2
  refine r_pop (pc := 708) C dL_law_708 rfl ?_
  refine r_goto (pc := 709) C (tgt := 2341) dL_law_709 (by decide) ?_
  exact r_sub [0, 1, 2, 3, 4] rfl (T_L_law_2341 C E ht hn hX23 h)
end
section
def P_L_law_712 (scL : Nat) (scx : Nat → Int32) (Q : Int32 → HS → Prop) (X23 : Nat → Nat → Nat → Int32 → Nat → Nat → HS → Prop) (v1 : Nat) (v2 : Nat) (v3 : Nat) (v4 : Int32) (kk : Nat) (nn : Nat) (S : HS) : Prop := ∀ x1 : Int32, x1 = v4 + (1 : Int32) → (vp_in x1 scL ∧ ∀ x3 : Int32, x3 = scx x1.toNatClampNeg → (∀ x4 : Int32, x4 = v4 + (2 : Int32) → (vp_in x4 scL ∧ ∀ x6 : Int32, x6 = scx x4.toNatClampNeg → (∀ x7 : Int32, x7 = v4 + (3 : Int32) → (vp_in x7 scL ∧ ∀ x9 : Int32, x9 = scx x7.toNatClampNeg → (ob S v1 9 ∧ (kk ≤ rm_L_law.cells ∧ nn ≤ rm_L_law.slots ∧ (P_X9_air v1 x3 x6 x9 (fun x12 S10 => Gr S S10 → (∀ x13 : Int32, x13 = v4 + (1 : Int32) → (vp_in x13 scL ∧ ∀ x15 : Int32, x15 = scx x13.toNatClampNeg → (∀ x16 : Int32, x16 = v4 + (2 : Int32) → (vp_in x16 scL ∧ ∀ x18 : Int32, x18 = scx x16.toNatClampNeg → (∀ x19 : Int32, x19 = v4 + (3 : Int32) → (vp_in x19 scL ∧ ∀ x21 : Int32, x21 = scx x19.toNatClampNeg → (ob S10 v2 11 ∧ (kk ≤ rm_L_law.cells ∧ nn ≤ rm_L_law.slots ∧ (P_X11_air v2 x15 x18 x21 (fun x24 S22 => Gr S10 S22 → (P_L_law_2341 scL scx Q X23 v1 v2 v3 v4 kk nn S22)) S10)))))))))) S))))))))
set_option maxRecDepth 20000 in
set_option maxHeartbeats 4000000 in
theorem T_L_law_712 {X : CX} {Q : Int32 → HS → Prop} {scb scL : Nat} {scx : Nat → Int32} (C : Cx X cL_law RL 7 rm_L_law) (E : LE X scb scL scx Q) (ht : LD X) (hn : True) {X23 : Nat → Nat → Nat → Int32 → Nat → Nat → HS → Prop} (hX23 : ∀ (v1 : Nat) (v2 : Nat) (v3 : Nat) (v4 : Int32) (kk : Nat) (nn : Nat) (S : HS), X23 v1 v2 v3 v4 kk nn S → WS X 7 kk nn 23 [(0, .ref scb), (1, .ref v1), (2, .ref v2), (3, .ref v3), (4, .int v4)] [] S) {v1 : Nat} {v2 : Nat} {v3 : Nat} {v4 : Int32} {kk : Nat} {nn : Nat} {S : HS} (h : P_L_law_712 scL scx Q X23 v1 v2 v3 v4 kk nn S) : WS X 7 kk nn 712 [(0, .ref scb), (1, .ref v1), (2, .ref v2), (3, .ref v3), (4, .int v4)] [] S := by
  refine r_aload_n (pc := 712) C dL_law_712 1 rfl ?_
  refine r_aload_n (pc := 713) C dL_law_713 0 rfl ?_
  refine r_iload (pc := 714) C dL_law_714 4 rfl ?_
  refine r_iconst (pc := 716) C (v := (1 : Int32)) dL_law_716 (by decide) ?_
  refine r_iadd (pc := 717) C dL_law_717 ?_
  refine r_topi (fun x1 ex1 => ?_)
  have h := h x1 ex1
  obtain ⟨i2, h⟩ := h
  refine r_scLd (pc := 718) C E i2 dL_law_718 ?_
  refine r_topi (fun x3 ex3 => ?_)
  have h := h x3 ex3
  refine r_aload_n (pc := 719) C dL_law_719 0 rfl ?_
  refine r_iload (pc := 720) C dL_law_720 4 rfl ?_
  refine r_iconst (pc := 722) C (v := (2 : Int32)) dL_law_722 (by decide) ?_
  refine r_iadd (pc := 723) C dL_law_723 ?_
  refine r_topi (fun x4 ex4 => ?_)
  have h := h x4 ex4
  obtain ⟨i5, h⟩ := h
  refine r_scLd (pc := 724) C E i5 dL_law_724 ?_
  refine r_topi (fun x6 ex6 => ?_)
  have h := h x6 ex6
  refine r_aload_n (pc := 725) C dL_law_725 0 rfl ?_
  refine r_iload (pc := 726) C dL_law_726 4 rfl ?_
  refine r_iconst (pc := 728) C (v := (3 : Int32)) dL_law_728 (by decide) ?_
  refine r_iadd (pc := 729) C dL_law_729 ?_
  refine r_topi (fun x7 ex7 => ?_)
  have h := h x7 ex7
  obtain ⟨i8, h⟩ := h
  refine r_scLd (pc := 730) C E i8 dL_law_730 ?_
  refine r_topi (fun x9 ex9 => ?_)
  have h := h x9 ex9
  obtain ⟨o_v1, h⟩ := h
  obtain ⟨hk, hk2, h⟩ := h
  refine r_callVi0 (pc := 731) C (rest := []) (a := v1) o_v1 [.int x3, .int x6, .int x9] yV_X9_air g_745 (c_X9_air h) dL_law_731 rfl rfl (Nat.le_of_ble_eq_true rfl) ⟨by decide, by decide⟩ ⟨hk, hk2⟩ ⟨rfl, rfl⟩ (fun x12 S10 h g11 => ?_)
  have h := h g11
  have o_v1 := gr_ob g11 o_v1
  refine r_pop (pc := 734) C dL_law_734 rfl ?_
  refine r_aload_n (pc := 735) C dL_law_735 2 rfl ?_
  refine r_aload_n (pc := 736) C dL_law_736 0 rfl ?_
  refine r_iload (pc := 737) C dL_law_737 4 rfl ?_
  refine r_iconst (pc := 739) C (v := (1 : Int32)) dL_law_739 (by decide) ?_
  refine r_iadd (pc := 740) C dL_law_740 ?_
  refine r_topi (fun x13 ex13 => ?_)
  have h := h x13 ex13
  obtain ⟨i14, h⟩ := h
  refine r_scLd (pc := 741) C E i14 dL_law_741 ?_
  refine r_topi (fun x15 ex15 => ?_)
  have h := h x15 ex15
  refine r_aload_n (pc := 742) C dL_law_742 0 rfl ?_
  refine r_iload (pc := 743) C dL_law_743 4 rfl ?_
  refine r_iconst (pc := 745) C (v := (2 : Int32)) dL_law_745 (by decide) ?_
  refine r_iadd (pc := 746) C dL_law_746 ?_
  refine r_topi (fun x16 ex16 => ?_)
  have h := h x16 ex16
  obtain ⟨i17, h⟩ := h
  refine r_scLd (pc := 747) C E i17 dL_law_747 ?_
  refine r_topi (fun x18 ex18 => ?_)
  have h := h x18 ex18
  refine r_aload_n (pc := 748) C dL_law_748 0 rfl ?_
  refine r_iload (pc := 749) C dL_law_749 4 rfl ?_
  refine r_iconst (pc := 751) C (v := (3 : Int32)) dL_law_751 (by decide) ?_
  refine r_iadd (pc := 752) C dL_law_752 ?_
  refine r_topi (fun x19 ex19 => ?_)
  have h := h x19 ex19
  obtain ⟨i20, h⟩ := h
  refine r_scLd (pc := 753) C E i20 dL_law_753 ?_
  refine r_topi (fun x21 ex21 => ?_)
  have h := h x21 ex21
  obtain ⟨o_v2, h⟩ := h
  obtain ⟨hk, hk2, h⟩ := h
  refine r_callVi0 (pc := 754) C (rest := []) (a := v2) o_v2 [.int x15, .int x18, .int x21] yV_X11_air g_1611 (c_X11_air h) dL_law_754 rfl rfl (Nat.le_of_ble_eq_true rfl) ⟨by decide, by decide⟩ ⟨hk, hk2⟩ ⟨rfl, rfl⟩ (fun x24 S22 h g23 => ?_)
  have h := h g23
  have o_v1 := gr_ob g23 o_v1
  have o_v2 := gr_ob g23 o_v2
  refine r_pop (pc := 757) C dL_law_757 rfl ?_
  refine r_goto (pc := 758) C (tgt := 2341) dL_law_758 (by decide) ?_
  exact r_sub [0, 1, 2, 3, 4] rfl (T_L_law_2341 C E ht hn hX23 h)
def P_L_law_761 (scL : Nat) (scx : Nat → Int32) (Q : Int32 → HS → Prop) (X23 : Nat → Nat → Nat → Int32 → Nat → Nat → HS → Prop) (v1 : Nat) (v2 : Nat) (v3 : Nat) (v4 : Int32) (kk : Nat) (nn : Nat) (S : HS) : Prop := ∀ x1 : Int32, x1 = v4 + (1 : Int32) → (vp_in x1 scL ∧ ∀ x3 : Int32, x3 = scx x1.toNatClampNeg → (∀ x4 : Int32, x4 = v4 + (2 : Int32) → (vp_in x4 scL ∧ ∀ x6 : Int32, x6 = scx x4.toNatClampNeg → (∀ x7 : Int32, x7 = v4 + (3 : Int32) → (vp_in x7 scL ∧ ∀ x9 : Int32, x9 = scx x7.toNatClampNeg → (∀ x10 : Int32, x10 = v4 + (4 : Int32) → (vp_in x10 scL ∧ ∀ x12 : Int32, x12 = scx x10.toNatClampNeg → (∀ x13 : Int32, x13 = v4 + (5 : Int32) → (vp_in x13 scL ∧ ∀ x15 : Int32, x15 = scx x13.toNatClampNeg → (ob S v1 9 ∧ (kk ≤ rm_L_law.cells ∧ nn ≤ rm_L_law.slots ∧ (P_X9_held v1 x3 x6 x9 x12 x15 (fun x18 S16 => Gr S S16 → (∀ x19 : Int32, x19 = v4 + (1 : Int32) → (vp_in x19 scL ∧ ∀ x21 : Int32, x21 = scx x19.toNatClampNeg → (∀ x22 : Int32, x22 = v4 + (2 : Int32) → (vp_in x22 scL ∧ ∀ x24 : Int32, x24 = scx x22.toNatClampNeg → (∀ x25 : Int32, x25 = v4 + (3 : Int32) → (vp_in x25 scL ∧ ∀ x27 : Int32, x27 = scx x25.toNatClampNeg → (∀ x28 : Int32, x28 = v4 + (4 : Int32) → (vp_in x28 scL ∧ ∀ x30 : Int32, x30 = scx x28.toNatClampNeg → (∀ x31 : Int32, x31 = v4 + (5 : Int32) → (vp_in x31 scL ∧ ∀ x33 : Int32, x33 = scx x31.toNatClampNeg → (ob S16 v2 11 ∧ (kk ≤ rm_L_law.cells ∧ nn ≤ rm_L_law.slots ∧ (P_X11_held v2 x21 x24 x27 x30 x33 (fun x36 S34 => Gr S16 S34 → (P_L_law_2341 scL scx Q X23 v1 v2 v3 v4 kk nn S34)) S16)))))))))))))) S))))))))))))
set_option maxRecDepth 20000 in
set_option maxHeartbeats 4000000 in
theorem T_L_law_761 {X : CX} {Q : Int32 → HS → Prop} {scb scL : Nat} {scx : Nat → Int32} (C : Cx X cL_law RL 7 rm_L_law) (E : LE X scb scL scx Q) (ht : LD X) (hn : True) {X23 : Nat → Nat → Nat → Int32 → Nat → Nat → HS → Prop} (hX23 : ∀ (v1 : Nat) (v2 : Nat) (v3 : Nat) (v4 : Int32) (kk : Nat) (nn : Nat) (S : HS), X23 v1 v2 v3 v4 kk nn S → WS X 7 kk nn 23 [(0, .ref scb), (1, .ref v1), (2, .ref v2), (3, .ref v3), (4, .int v4)] [] S) {v1 : Nat} {v2 : Nat} {v3 : Nat} {v4 : Int32} {kk : Nat} {nn : Nat} {S : HS} (h : P_L_law_761 scL scx Q X23 v1 v2 v3 v4 kk nn S) : WS X 7 kk nn 761 [(0, .ref scb), (1, .ref v1), (2, .ref v2), (3, .ref v3), (4, .int v4)] [] S := by
  refine r_aload_n (pc := 761) C dL_law_761 1 rfl ?_
  refine r_aload_n (pc := 762) C dL_law_762 0 rfl ?_
  refine r_iload (pc := 763) C dL_law_763 4 rfl ?_
  refine r_iconst (pc := 765) C (v := (1 : Int32)) dL_law_765 (by decide) ?_
  refine r_iadd (pc := 766) C dL_law_766 ?_
  refine r_topi (fun x1 ex1 => ?_)
  have h := h x1 ex1
  obtain ⟨i2, h⟩ := h
  refine r_scLd (pc := 767) C E i2 dL_law_767 ?_
  refine r_topi (fun x3 ex3 => ?_)
  have h := h x3 ex3
  refine r_aload_n (pc := 768) C dL_law_768 0 rfl ?_
  refine r_iload (pc := 769) C dL_law_769 4 rfl ?_
  refine r_iconst (pc := 771) C (v := (2 : Int32)) dL_law_771 (by decide) ?_
  refine r_iadd (pc := 772) C dL_law_772 ?_
  refine r_topi (fun x4 ex4 => ?_)
  have h := h x4 ex4
  obtain ⟨i5, h⟩ := h
  refine r_scLd (pc := 773) C E i5 dL_law_773 ?_
  refine r_topi (fun x6 ex6 => ?_)
  have h := h x6 ex6
  refine r_aload_n (pc := 774) C dL_law_774 0 rfl ?_
  refine r_iload (pc := 775) C dL_law_775 4 rfl ?_
  refine r_iconst (pc := 777) C (v := (3 : Int32)) dL_law_777 (by decide) ?_
  refine r_iadd (pc := 778) C dL_law_778 ?_
  refine r_topi (fun x7 ex7 => ?_)
  have h := h x7 ex7
  obtain ⟨i8, h⟩ := h
  refine r_scLd (pc := 779) C E i8 dL_law_779 ?_
  refine r_topi (fun x9 ex9 => ?_)
  have h := h x9 ex9
  refine r_aload_n (pc := 780) C dL_law_780 0 rfl ?_
  refine r_iload (pc := 781) C dL_law_781 4 rfl ?_
  refine r_iconst (pc := 783) C (v := (4 : Int32)) dL_law_783 (by decide) ?_
  refine r_iadd (pc := 784) C dL_law_784 ?_
  refine r_topi (fun x10 ex10 => ?_)
  have h := h x10 ex10
  obtain ⟨i11, h⟩ := h
  refine r_scLd (pc := 785) C E i11 dL_law_785 ?_
  refine r_topi (fun x12 ex12 => ?_)
  have h := h x12 ex12
  refine r_aload_n (pc := 786) C dL_law_786 0 rfl ?_
  refine r_iload (pc := 787) C dL_law_787 4 rfl ?_
  refine r_iconst (pc := 789) C (v := (5 : Int32)) dL_law_789 (by decide) ?_
  refine r_iadd (pc := 790) C dL_law_790 ?_
  refine r_topi (fun x13 ex13 => ?_)
  have h := h x13 ex13
  obtain ⟨i14, h⟩ := h
  refine r_scLd (pc := 791) C E i14 dL_law_791 ?_
  refine r_topi (fun x15 ex15 => ?_)
  have h := h x15 ex15
  obtain ⟨o_v1, h⟩ := h
  obtain ⟨hk, hk2, h⟩ := h
  refine r_callVi0 (pc := 792) C (rest := []) (a := v1) o_v1 [.int x3, .int x6, .int x9, .int x12, .int x15] yV_X9_held g_750 (c_X9_held h) dL_law_792 rfl rfl (Nat.le_of_ble_eq_true rfl) ⟨by decide, by decide⟩ ⟨hk, hk2⟩ ⟨rfl, rfl⟩ (fun x18 S16 h g17 => ?_)
  have h := h g17
  have o_v1 := gr_ob g17 o_v1
  refine r_pop (pc := 795) C dL_law_795 rfl ?_
  refine r_aload_n (pc := 796) C dL_law_796 2 rfl ?_
  refine r_aload_n (pc := 797) C dL_law_797 0 rfl ?_
  refine r_iload (pc := 798) C dL_law_798 4 rfl ?_
  refine r_iconst (pc := 800) C (v := (1 : Int32)) dL_law_800 (by decide) ?_
  refine r_iadd (pc := 801) C dL_law_801 ?_
  refine r_topi (fun x19 ex19 => ?_)
  have h := h x19 ex19
  obtain ⟨i20, h⟩ := h
  refine r_scLd (pc := 802) C E i20 dL_law_802 ?_
  refine r_topi (fun x21 ex21 => ?_)
  have h := h x21 ex21
  refine r_aload_n (pc := 803) C dL_law_803 0 rfl ?_
  refine r_iload (pc := 804) C dL_law_804 4 rfl ?_
  refine r_iconst (pc := 806) C (v := (2 : Int32)) dL_law_806 (by decide) ?_
  refine r_iadd (pc := 807) C dL_law_807 ?_
  refine r_topi (fun x22 ex22 => ?_)
  have h := h x22 ex22
  obtain ⟨i23, h⟩ := h
  refine r_scLd (pc := 808) C E i23 dL_law_808 ?_
  refine r_topi (fun x24 ex24 => ?_)
  have h := h x24 ex24
  refine r_aload_n (pc := 809) C dL_law_809 0 rfl ?_
  refine r_iload (pc := 810) C dL_law_810 4 rfl ?_
  refine r_iconst (pc := 812) C (v := (3 : Int32)) dL_law_812 (by decide) ?_
  refine r_iadd (pc := 813) C dL_law_813 ?_
  refine r_topi (fun x25 ex25 => ?_)
  have h := h x25 ex25
  obtain ⟨i26, h⟩ := h
  refine r_scLd (pc := 814) C E i26 dL_law_814 ?_
  refine r_topi (fun x27 ex27 => ?_)
  have h := h x27 ex27
  refine r_aload_n (pc := 815) C dL_law_815 0 rfl ?_
  refine r_iload (pc := 816) C dL_law_816 4 rfl ?_
  refine r_iconst (pc := 818) C (v := (4 : Int32)) dL_law_818 (by decide) ?_
  refine r_iadd (pc := 819) C dL_law_819 ?_
  refine r_topi (fun x28 ex28 => ?_)
  have h := h x28 ex28
  obtain ⟨i29, h⟩ := h
  refine r_scLd (pc := 820) C E i29 dL_law_820 ?_
  refine r_topi (fun x30 ex30 => ?_)
  have h := h x30 ex30
  refine r_aload_n (pc := 821) C dL_law_821 0 rfl ?_
  refine r_iload (pc := 822) C dL_law_822 4 rfl ?_
  refine r_iconst (pc := 824) C (v := (5 : Int32)) dL_law_824 (by decide) ?_
  refine r_iadd (pc := 825) C dL_law_825 ?_
  refine r_topi (fun x31 ex31 => ?_)
  have h := h x31 ex31
  obtain ⟨i32, h⟩ := h
  refine r_scLd (pc := 826) C E i32 dL_law_826 ?_
  refine r_topi (fun x33 ex33 => ?_)
  have h := h x33 ex33
  obtain ⟨o_v2, h⟩ := h
  obtain ⟨hk, hk2, h⟩ := h
  refine r_callVi0 (pc := 827) C (rest := []) (a := v2) o_v2 [.int x21, .int x24, .int x27, .int x30, .int x33] yV_X11_held g_1619 (c_X11_held h) dL_law_827 rfl rfl (Nat.le_of_ble_eq_true rfl) ⟨by decide, by decide⟩ ⟨hk, hk2⟩ ⟨rfl, rfl⟩ (fun x36 S34 h g35 => ?_)
  have h := h g35
  have o_v1 := gr_ob g35 o_v1
  have o_v2 := gr_ob g35 o_v2
  refine r_pop (pc := 830) C dL_law_830 rfl ?_
  refine r_goto (pc := 831) C (tgt := 2341) dL_law_831 (by decide) ?_
  exact r_sub [0, 1, 2, 3, 4] rfl (T_L_law_2341 C E ht hn hX23 h)
def P_L_law_834 (scL : Nat) (scx : Nat → Int32) (Q : Int32 → HS → Prop) (X23 : Nat → Nat → Nat → Int32 → Nat → Nat → HS → Prop) (v1 : Nat) (v2 : Nat) (v3 : Nat) (v4 : Int32) (kk : Nat) (nn : Nat) (S : HS) : Prop := ∀ x1 : Int32, x1 = v4 + (1 : Int32) → (vp_in x1 scL ∧ ∀ x3 : Int32, x3 = scx x1.toNatClampNeg → (∀ x4 : Int32, x4 = v4 + (2 : Int32) → (vp_in x4 scL ∧ ∀ x6 : Int32, x6 = scx x4.toNatClampNeg → (∀ x7 : Int32, x7 = v4 + (3 : Int32) → (vp_in x7 scL ∧ ∀ x9 : Int32, x9 = scx x7.toNatClampNeg → (∀ x10 : Int32, x10 = v4 + (4 : Int32) → (vp_in x10 scL ∧ ∀ x12 : Int32, x12 = scx x10.toNatClampNeg → (ob S v1 9 ∧ (kk ≤ rm_L_law.cells ∧ nn ≤ rm_L_law.slots ∧ (P_X9_best v1 x3 x6 x9 x12 (fun x15 S13 => Gr S S13 → (∀ x16 : Int32, x16 = v4 + (1 : Int32) → (vp_in x16 scL ∧ ∀ x18 : Int32, x18 = scx x16.toNatClampNeg → (∀ x19 : Int32, x19 = v4 + (2 : Int32) → (vp_in x19 scL ∧ ∀ x21 : Int32, x21 = scx x19.toNatClampNeg → (∀ x22 : Int32, x22 = v4 + (3 : Int32) → (vp_in x22 scL ∧ ∀ x24 : Int32, x24 = scx x22.toNatClampNeg → (∀ x25 : Int32, x25 = v4 + (4 : Int32) → (vp_in x25 scL ∧ ∀ x27 : Int32, x27 = scx x25.toNatClampNeg → (ob S13 v2 11 ∧ (kk ≤ rm_L_law.cells ∧ nn ≤ rm_L_law.slots ∧ (P_X11_best v2 x18 x21 x24 x27 (fun x30 S28 => Gr S13 S28 → (P_L_law_2341 scL scx Q X23 v1 v2 v3 v4 kk nn S28)) S13)))))))))))) S))))))))))
set_option maxRecDepth 20000 in
set_option maxHeartbeats 4000000 in
theorem T_L_law_834 {X : CX} {Q : Int32 → HS → Prop} {scb scL : Nat} {scx : Nat → Int32} (C : Cx X cL_law RL 7 rm_L_law) (E : LE X scb scL scx Q) (ht : LD X) (hn : True) {X23 : Nat → Nat → Nat → Int32 → Nat → Nat → HS → Prop} (hX23 : ∀ (v1 : Nat) (v2 : Nat) (v3 : Nat) (v4 : Int32) (kk : Nat) (nn : Nat) (S : HS), X23 v1 v2 v3 v4 kk nn S → WS X 7 kk nn 23 [(0, .ref scb), (1, .ref v1), (2, .ref v2), (3, .ref v3), (4, .int v4)] [] S) {v1 : Nat} {v2 : Nat} {v3 : Nat} {v4 : Int32} {kk : Nat} {nn : Nat} {S : HS} (h : P_L_law_834 scL scx Q X23 v1 v2 v3 v4 kk nn S) : WS X 7 kk nn 834 [(0, .ref scb), (1, .ref v1), (2, .ref v2), (3, .ref v3), (4, .int v4)] [] S := by
  refine r_aload_n (pc := 834) C dL_law_834 1 rfl ?_
  refine r_aload_n (pc := 835) C dL_law_835 0 rfl ?_
  refine r_iload (pc := 836) C dL_law_836 4 rfl ?_
  refine r_iconst (pc := 838) C (v := (1 : Int32)) dL_law_838 (by decide) ?_
  refine r_iadd (pc := 839) C dL_law_839 ?_
  refine r_topi (fun x1 ex1 => ?_)
  have h := h x1 ex1
  obtain ⟨i2, h⟩ := h
  refine r_scLd (pc := 840) C E i2 dL_law_840 ?_
  refine r_topi (fun x3 ex3 => ?_)
  have h := h x3 ex3
  refine r_aload_n (pc := 841) C dL_law_841 0 rfl ?_
  refine r_iload (pc := 842) C dL_law_842 4 rfl ?_
  refine r_iconst (pc := 844) C (v := (2 : Int32)) dL_law_844 (by decide) ?_
  refine r_iadd (pc := 845) C dL_law_845 ?_
  refine r_topi (fun x4 ex4 => ?_)
  have h := h x4 ex4
  obtain ⟨i5, h⟩ := h
  refine r_scLd (pc := 846) C E i5 dL_law_846 ?_
  refine r_topi (fun x6 ex6 => ?_)
  have h := h x6 ex6
  refine r_aload_n (pc := 847) C dL_law_847 0 rfl ?_
  refine r_iload (pc := 848) C dL_law_848 4 rfl ?_
  refine r_iconst (pc := 850) C (v := (3 : Int32)) dL_law_850 (by decide) ?_
  refine r_iadd (pc := 851) C dL_law_851 ?_
  refine r_topi (fun x7 ex7 => ?_)
  have h := h x7 ex7
  obtain ⟨i8, h⟩ := h
  refine r_scLd (pc := 852) C E i8 dL_law_852 ?_
  refine r_topi (fun x9 ex9 => ?_)
  have h := h x9 ex9
  refine r_aload_n (pc := 853) C dL_law_853 0 rfl ?_
  refine r_iload (pc := 854) C dL_law_854 4 rfl ?_
  refine r_iconst (pc := 856) C (v := (4 : Int32)) dL_law_856 (by decide) ?_
  refine r_iadd (pc := 857) C dL_law_857 ?_
  refine r_topi (fun x10 ex10 => ?_)
  have h := h x10 ex10
  obtain ⟨i11, h⟩ := h
  refine r_scLd (pc := 858) C E i11 dL_law_858 ?_
  refine r_topi (fun x12 ex12 => ?_)
  have h := h x12 ex12
  obtain ⟨o_v1, h⟩ := h
  obtain ⟨hk, hk2, h⟩ := h
  refine r_callVi0 (pc := 859) C (rest := []) (a := v1) o_v1 [.int x3, .int x6, .int x9, .int x12] yV_X9_best g_756 (c_X9_best h) dL_law_859 rfl rfl (Nat.le_of_ble_eq_true rfl) ⟨by decide, by decide⟩ ⟨hk, hk2⟩ ⟨rfl, rfl⟩ (fun x15 S13 h g14 => ?_)
  have h := h g14
  have o_v1 := gr_ob g14 o_v1
  refine r_pop (pc := 862) C dL_law_862 rfl ?_
  refine r_aload_n (pc := 863) C dL_law_863 2 rfl ?_
  refine r_aload_n (pc := 864) C dL_law_864 0 rfl ?_
  refine r_iload (pc := 865) C dL_law_865 4 rfl ?_
  refine r_iconst (pc := 867) C (v := (1 : Int32)) dL_law_867 (by decide) ?_
  refine r_iadd (pc := 868) C dL_law_868 ?_
  refine r_topi (fun x16 ex16 => ?_)
  have h := h x16 ex16
  obtain ⟨i17, h⟩ := h
  refine r_scLd (pc := 869) C E i17 dL_law_869 ?_
  refine r_topi (fun x18 ex18 => ?_)
  have h := h x18 ex18
  refine r_aload_n (pc := 870) C dL_law_870 0 rfl ?_
  refine r_iload (pc := 871) C dL_law_871 4 rfl ?_
  refine r_iconst (pc := 873) C (v := (2 : Int32)) dL_law_873 (by decide) ?_
  refine r_iadd (pc := 874) C dL_law_874 ?_
  refine r_topi (fun x19 ex19 => ?_)
  have h := h x19 ex19
  obtain ⟨i20, h⟩ := h
  refine r_scLd (pc := 875) C E i20 dL_law_875 ?_
  refine r_topi (fun x21 ex21 => ?_)
  have h := h x21 ex21
  refine r_aload_n (pc := 876) C dL_law_876 0 rfl ?_
  refine r_iload (pc := 877) C dL_law_877 4 rfl ?_
  refine r_iconst (pc := 879) C (v := (3 : Int32)) dL_law_879 (by decide) ?_
  refine r_iadd (pc := 880) C dL_law_880 ?_
  refine r_topi (fun x22 ex22 => ?_)
  have h := h x22 ex22
  obtain ⟨i23, h⟩ := h
  refine r_scLd (pc := 881) C E i23 dL_law_881 ?_
  refine r_topi (fun x24 ex24 => ?_)
  have h := h x24 ex24
  refine r_aload_n (pc := 882) C dL_law_882 0 rfl ?_
  refine r_iload (pc := 883) C dL_law_883 4 rfl ?_
  refine r_iconst (pc := 885) C (v := (4 : Int32)) dL_law_885 (by decide) ?_
  refine r_iadd (pc := 886) C dL_law_886 ?_
  refine r_topi (fun x25 ex25 => ?_)
  have h := h x25 ex25
  obtain ⟨i26, h⟩ := h
  refine r_scLd (pc := 887) C E i26 dL_law_887 ?_
  refine r_topi (fun x27 ex27 => ?_)
  have h := h x27 ex27
  obtain ⟨o_v2, h⟩ := h
  obtain ⟨hk, hk2, h⟩ := h
  refine r_callVi0 (pc := 888) C (rest := []) (a := v2) o_v2 [.int x18, .int x21, .int x24, .int x27] yV_X11_best g_1623 (c_X11_best h) dL_law_888 rfl rfl (Nat.le_of_ble_eq_true rfl) ⟨by decide, by decide⟩ ⟨hk, hk2⟩ ⟨rfl, rfl⟩ (fun x30 S28 h g29 => ?_)
  have h := h g29
  have o_v1 := gr_ob g29 o_v1
  have o_v2 := gr_ob g29 o_v2
  refine r_pop (pc := 891) C dL_law_891 rfl ?_
  refine r_goto (pc := 892) C (tgt := 2341) dL_law_892 (by decide) ?_
  exact r_sub [0, 1, 2, 3, 4] rfl (T_L_law_2341 C E ht hn hX23 h)
def P_L_law_977 (scL : Nat) (scx : Nat → Int32) (Q : Int32 → HS → Prop) (X23 : Nat → Nat → Nat → Int32 → Nat → Nat → HS → Prop) (v1 : Nat) (v2 : Nat) (v3 : Nat) (v4 : Int32) (s0 : Nat) (s1 : Int32) (s2 : Int32) (s3 : Int32) (s4 : Int32) (s5 : Int32) (kk : Nat) (nn : Nat) (S : HS) : Prop := ob S s0 11 ∧ (kk ≤ rm_L_law.cells ∧ nn ≤ rm_L_law.slots ∧ (P_X11_saves s0 s1 s2 s3 s4 s5 (fun x3 S1 => Gr S S1 → (P_L_law_2341 scL scx Q X23 v1 v2 v3 v4 kk nn S1)) S))
set_option maxRecDepth 20000 in
set_option maxHeartbeats 4000000 in
theorem T_L_law_977 {X : CX} {Q : Int32 → HS → Prop} {scb scL : Nat} {scx : Nat → Int32} (C : Cx X cL_law RL 7 rm_L_law) (E : LE X scb scL scx Q) (ht : LD X) (hn : True) {X23 : Nat → Nat → Nat → Int32 → Nat → Nat → HS → Prop} (hX23 : ∀ (v1 : Nat) (v2 : Nat) (v3 : Nat) (v4 : Int32) (kk : Nat) (nn : Nat) (S : HS), X23 v1 v2 v3 v4 kk nn S → WS X 7 kk nn 23 [(0, .ref scb), (1, .ref v1), (2, .ref v2), (3, .ref v3), (4, .int v4)] [] S) {v1 : Nat} {v2 : Nat} {v3 : Nat} {v4 : Int32} {s0 : Nat} {s1 : Int32} {s2 : Int32} {s3 : Int32} {s4 : Int32} {s5 : Int32} {kk : Nat} {nn : Nat} {S : HS} (h : P_L_law_977 scL scx Q X23 v1 v2 v3 v4 s0 s1 s2 s3 s4 s5 kk nn S) : WS X 7 kk nn 977 [(0, .ref scb), (1, .ref v1), (2, .ref v2), (3, .ref v3), (4, .int v4)] [.int s5, .int s4, .int s3, .int s2, .int s1, .ref s0] S := by
  obtain ⟨o_s0, h⟩ := h
  obtain ⟨hk, hk2, h⟩ := h
  refine r_callVl0 (pc := 977) C (rest := []) (a := s0) o_s0 [.int s1, .int s2, .int s3, .int s4, .int s5] yV_X11_saves g_1631 (c_X11_saves h) dL_law_977 rfl rfl (Nat.le_of_ble_eq_true rfl) ⟨by decide, by decide⟩ ⟨hk, hk2⟩ ⟨rfl, rfl⟩ (fun x3 S1 h g2 => ?_)
  have h := h g2
  have o_s0 := gr_ob g2 o_s0
  refine r_pop2 (pc := 980) C dL_law_980 rfl ?_
  refine r_goto (pc := 981) C (tgt := 2341) dL_law_981 (by decide) ?_
  exact r_sub [0, 1, 2, 3, 4] rfl (T_L_law_2341 C E ht hn hX23 h)
def P_L_law_934 (scL : Nat) (scx : Nat → Int32) (Q : Int32 → HS → Prop) (X23 : Nat → Nat → Nat → Int32 → Nat → Nat → HS → Prop) (v1 : Nat) (v2 : Nat) (v3 : Nat) (v4 : Int32) (s0 : Nat) (s1 : Int32) (s2 : Int32) (s3 : Int32) (s4 : Int32) (s5 : Int32) (kk : Nat) (nn : Nat) (S : HS) : Prop := ob S s0 9 ∧ (kk ≤ rm_L_law.cells ∧ nn ≤ rm_L_law.slots ∧ (P_X9_saves s0 s1 s2 s3 s4 s5 (fun x3 S1 => Gr S S1 → (∀ x4 : Int32, x4 = v4 + (1 : Int32) → (vp_in x4 scL ∧ ∀ x6 : Int32, x6 = scx x4.toNatClampNeg → (∀ x7 : Int32, x7 = v4 + (2 : Int32) → (vp_in x7 scL ∧ ∀ x9 : Int32, x9 = scx x7.toNatClampNeg → (∀ x10 : Int32, x10 = v4 + (3 : Int32) → (vp_in x10 scL ∧ ∀ x12 : Int32, x12 = scx x10.toNatClampNeg → (∀ x13 : Int32, x13 = v4 + (4 : Int32) → (vp_in x13 scL ∧ ∀ x15 : Int32, x15 = scx x13.toNatClampNeg → (∀ x16 : Int32, x16 = v4 + (5 : Int32) → (vp_in x16 scL ∧ ∀ x18 : Int32, x18 = scx x16.toNatClampNeg → (((x18 = 0) → (P_L_law_977 scL scx Q X23 v1 v2 v3 v4 v2 x6 x9 x12 x15 (0 : Int32) kk nn S1)) ∧ ((¬ x18 = 0) → (P_L_law_977 scL scx Q X23 v1 v2 v3 v4 v2 x6 x9 x12 x15 (1 : Int32) kk nn S1)))))))))))))) S))
set_option maxRecDepth 20000 in
set_option maxHeartbeats 4000000 in
theorem T_L_law_934 {X : CX} {Q : Int32 → HS → Prop} {scb scL : Nat} {scx : Nat → Int32} (C : Cx X cL_law RL 7 rm_L_law) (E : LE X scb scL scx Q) (ht : LD X) (hn : True) {X23 : Nat → Nat → Nat → Int32 → Nat → Nat → HS → Prop} (hX23 : ∀ (v1 : Nat) (v2 : Nat) (v3 : Nat) (v4 : Int32) (kk : Nat) (nn : Nat) (S : HS), X23 v1 v2 v3 v4 kk nn S → WS X 7 kk nn 23 [(0, .ref scb), (1, .ref v1), (2, .ref v2), (3, .ref v3), (4, .int v4)] [] S) {v1 : Nat} {v2 : Nat} {v3 : Nat} {v4 : Int32} {s0 : Nat} {s1 : Int32} {s2 : Int32} {s3 : Int32} {s4 : Int32} {s5 : Int32} {kk : Nat} {nn : Nat} {S : HS} (h : P_L_law_934 scL scx Q X23 v1 v2 v3 v4 s0 s1 s2 s3 s4 s5 kk nn S) : WS X 7 kk nn 934 [(0, .ref scb), (1, .ref v1), (2, .ref v2), (3, .ref v3), (4, .int v4)] [.int s5, .int s4, .int s3, .int s2, .int s1, .ref s0] S := by
  obtain ⟨o_s0, h⟩ := h
  obtain ⟨hk, hk2, h⟩ := h
  refine r_callVl0 (pc := 934) C (rest := []) (a := s0) o_s0 [.int s1, .int s2, .int s3, .int s4, .int s5] yV_X9_saves g_766 (c_X9_saves h) dL_law_934 rfl rfl (Nat.le_of_ble_eq_true rfl) ⟨by decide, by decide⟩ ⟨hk, hk2⟩ ⟨rfl, rfl⟩ (fun x3 S1 h g2 => ?_)
  have h := h g2
  have o_s0 := gr_ob g2 o_s0
  refine r_pop2 (pc := 937) C dL_law_937 rfl ?_
  refine r_aload_n (pc := 938) C dL_law_938 2 rfl ?_
  refine r_aload_n (pc := 939) C dL_law_939 0 rfl ?_
  refine r_iload (pc := 940) C dL_law_940 4 rfl ?_
  refine r_iconst (pc := 942) C (v := (1 : Int32)) dL_law_942 (by decide) ?_
  refine r_iadd (pc := 943) C dL_law_943 ?_
  refine r_topi (fun x4 ex4 => ?_)
  have h := h x4 ex4
  obtain ⟨i5, h⟩ := h
  refine r_scLd (pc := 944) C E i5 dL_law_944 ?_
  refine r_topi (fun x6 ex6 => ?_)
  have h := h x6 ex6
  refine r_aload_n (pc := 945) C dL_law_945 0 rfl ?_
  refine r_iload (pc := 946) C dL_law_946 4 rfl ?_
  refine r_iconst (pc := 948) C (v := (2 : Int32)) dL_law_948 (by decide) ?_
  refine r_iadd (pc := 949) C dL_law_949 ?_
  refine r_topi (fun x7 ex7 => ?_)
  have h := h x7 ex7
  obtain ⟨i8, h⟩ := h
  refine r_scLd (pc := 950) C E i8 dL_law_950 ?_
  refine r_topi (fun x9 ex9 => ?_)
  have h := h x9 ex9
  refine r_aload_n (pc := 951) C dL_law_951 0 rfl ?_
  refine r_iload (pc := 952) C dL_law_952 4 rfl ?_
  refine r_iconst (pc := 954) C (v := (3 : Int32)) dL_law_954 (by decide) ?_
  refine r_iadd (pc := 955) C dL_law_955 ?_
  refine r_topi (fun x10 ex10 => ?_)
  have h := h x10 ex10
  obtain ⟨i11, h⟩ := h
  refine r_scLd (pc := 956) C E i11 dL_law_956 ?_
  refine r_topi (fun x12 ex12 => ?_)
  have h := h x12 ex12
  refine r_aload_n (pc := 957) C dL_law_957 0 rfl ?_
  refine r_iload (pc := 958) C dL_law_958 4 rfl ?_
  refine r_iconst (pc := 960) C (v := (4 : Int32)) dL_law_960 (by decide) ?_
  refine r_iadd (pc := 961) C dL_law_961 ?_
  refine r_topi (fun x13 ex13 => ?_)
  have h := h x13 ex13
  obtain ⟨i14, h⟩ := h
  refine r_scLd (pc := 962) C E i14 dL_law_962 ?_
  refine r_topi (fun x15 ex15 => ?_)
  have h := h x15 ex15
  refine r_aload_n (pc := 963) C dL_law_963 0 rfl ?_
  refine r_iload (pc := 964) C dL_law_964 4 rfl ?_
  refine r_iconst (pc := 966) C (v := (5 : Int32)) dL_law_966 (by decide) ?_
  refine r_iadd (pc := 967) C dL_law_967 ?_
  refine r_topi (fun x16 ex16 => ?_)
  have h := h x16 ex16
  obtain ⟨i17, h⟩ := h
  refine r_scLd (pc := 968) C E i17 dL_law_968 ?_
  refine r_topi (fun x18 ex18 => ?_)
  have h := h x18 ex18
  refine r_if_eq (pc := 969) C (tgt := 976) dL_law_969 (by decide) (fun c19 => ?_) (fun c19 => ?_)
  · have h := h.1 c19
    refine r_iconst (pc := 976) C (v := (0 : Int32)) dL_law_976 (by decide) ?_
    exact r_sub [0, 1, 2, 3, 4] rfl (T_L_law_977 C E ht hn hX23 h)
  · have h := h.2 c19
    refine r_iconst (pc := 972) C (v := (1 : Int32)) dL_law_972 (by decide) ?_
    refine r_goto (pc := 973) C (tgt := 977) dL_law_973 (by decide) ?_
    exact r_sub [0, 1, 2, 3, 4] rfl (T_L_law_977 C E ht hn hX23 h)
def P_L_law_895 (scL : Nat) (scx : Nat → Int32) (Q : Int32 → HS → Prop) (X23 : Nat → Nat → Nat → Int32 → Nat → Nat → HS → Prop) (v1 : Nat) (v2 : Nat) (v3 : Nat) (v4 : Int32) (kk : Nat) (nn : Nat) (S : HS) : Prop := ∀ x1 : Int32, x1 = v4 + (1 : Int32) → (vp_in x1 scL ∧ ∀ x3 : Int32, x3 = scx x1.toNatClampNeg → (∀ x4 : Int32, x4 = v4 + (2 : Int32) → (vp_in x4 scL ∧ ∀ x6 : Int32, x6 = scx x4.toNatClampNeg → (∀ x7 : Int32, x7 = v4 + (3 : Int32) → (vp_in x7 scL ∧ ∀ x9 : Int32, x9 = scx x7.toNatClampNeg → (∀ x10 : Int32, x10 = v4 + (4 : Int32) → (vp_in x10 scL ∧ ∀ x12 : Int32, x12 = scx x10.toNatClampNeg → (∀ x13 : Int32, x13 = v4 + (5 : Int32) → (vp_in x13 scL ∧ ∀ x15 : Int32, x15 = scx x13.toNatClampNeg → (((x15 = 0) → (P_L_law_934 scL scx Q X23 v1 v2 v3 v4 v1 x3 x6 x9 x12 (0 : Int32) kk nn S)) ∧ ((¬ x15 = 0) → (P_L_law_934 scL scx Q X23 v1 v2 v3 v4 v1 x3 x6 x9 x12 (1 : Int32) kk nn S))))))))))))
set_option maxRecDepth 20000 in
set_option maxHeartbeats 4000000 in
theorem T_L_law_895 {X : CX} {Q : Int32 → HS → Prop} {scb scL : Nat} {scx : Nat → Int32} (C : Cx X cL_law RL 7 rm_L_law) (E : LE X scb scL scx Q) (ht : LD X) (hn : True) {X23 : Nat → Nat → Nat → Int32 → Nat → Nat → HS → Prop} (hX23 : ∀ (v1 : Nat) (v2 : Nat) (v3 : Nat) (v4 : Int32) (kk : Nat) (nn : Nat) (S : HS), X23 v1 v2 v3 v4 kk nn S → WS X 7 kk nn 23 [(0, .ref scb), (1, .ref v1), (2, .ref v2), (3, .ref v3), (4, .int v4)] [] S) {v1 : Nat} {v2 : Nat} {v3 : Nat} {v4 : Int32} {kk : Nat} {nn : Nat} {S : HS} (h : P_L_law_895 scL scx Q X23 v1 v2 v3 v4 kk nn S) : WS X 7 kk nn 895 [(0, .ref scb), (1, .ref v1), (2, .ref v2), (3, .ref v3), (4, .int v4)] [] S := by
  refine r_aload_n (pc := 895) C dL_law_895 1 rfl ?_
  refine r_aload_n (pc := 896) C dL_law_896 0 rfl ?_
  refine r_iload (pc := 897) C dL_law_897 4 rfl ?_
  refine r_iconst (pc := 899) C (v := (1 : Int32)) dL_law_899 (by decide) ?_
  refine r_iadd (pc := 900) C dL_law_900 ?_
  refine r_topi (fun x1 ex1 => ?_)
  have h := h x1 ex1
  obtain ⟨i2, h⟩ := h
  refine r_scLd (pc := 901) C E i2 dL_law_901 ?_
  refine r_topi (fun x3 ex3 => ?_)
  have h := h x3 ex3
  refine r_aload_n (pc := 902) C dL_law_902 0 rfl ?_
  refine r_iload (pc := 903) C dL_law_903 4 rfl ?_
  refine r_iconst (pc := 905) C (v := (2 : Int32)) dL_law_905 (by decide) ?_
  refine r_iadd (pc := 906) C dL_law_906 ?_
  refine r_topi (fun x4 ex4 => ?_)
  have h := h x4 ex4
  obtain ⟨i5, h⟩ := h
  refine r_scLd (pc := 907) C E i5 dL_law_907 ?_
  refine r_topi (fun x6 ex6 => ?_)
  have h := h x6 ex6
  refine r_aload_n (pc := 908) C dL_law_908 0 rfl ?_
  refine r_iload (pc := 909) C dL_law_909 4 rfl ?_
  refine r_iconst (pc := 911) C (v := (3 : Int32)) dL_law_911 (by decide) ?_
  refine r_iadd (pc := 912) C dL_law_912 ?_
  refine r_topi (fun x7 ex7 => ?_)
  have h := h x7 ex7
  obtain ⟨i8, h⟩ := h
  refine r_scLd (pc := 913) C E i8 dL_law_913 ?_
  refine r_topi (fun x9 ex9 => ?_)
  have h := h x9 ex9
  refine r_aload_n (pc := 914) C dL_law_914 0 rfl ?_
  refine r_iload (pc := 915) C dL_law_915 4 rfl ?_
  refine r_iconst (pc := 917) C (v := (4 : Int32)) dL_law_917 (by decide) ?_
  refine r_iadd (pc := 918) C dL_law_918 ?_
  refine r_topi (fun x10 ex10 => ?_)
  have h := h x10 ex10
  obtain ⟨i11, h⟩ := h
  refine r_scLd (pc := 919) C E i11 dL_law_919 ?_
  refine r_topi (fun x12 ex12 => ?_)
  have h := h x12 ex12
  refine r_aload_n (pc := 920) C dL_law_920 0 rfl ?_
  refine r_iload (pc := 921) C dL_law_921 4 rfl ?_
  refine r_iconst (pc := 923) C (v := (5 : Int32)) dL_law_923 (by decide) ?_
  refine r_iadd (pc := 924) C dL_law_924 ?_
  refine r_topi (fun x13 ex13 => ?_)
  have h := h x13 ex13
  obtain ⟨i14, h⟩ := h
  refine r_scLd (pc := 925) C E i14 dL_law_925 ?_
  refine r_topi (fun x15 ex15 => ?_)
  have h := h x15 ex15
  refine r_if_eq (pc := 926) C (tgt := 933) dL_law_926 (by decide) (fun c16 => ?_) (fun c16 => ?_)
  · have h := h.1 c16
    refine r_iconst (pc := 933) C (v := (0 : Int32)) dL_law_933 (by decide) ?_
    exact r_sub [0, 1, 2, 3, 4] rfl (T_L_law_934 C E ht hn hX23 h)
  · have h := h.2 c16
    refine r_iconst (pc := 929) C (v := (1 : Int32)) dL_law_929 (by decide) ?_
    refine r_goto (pc := 930) C (tgt := 934) dL_law_930 (by decide) ?_
    exact r_sub [0, 1, 2, 3, 4] rfl (T_L_law_934 C E ht hn hX23 h)
def P_L_law_984 (scL : Nat) (scx : Nat → Int32) (Q : Int32 → HS → Prop) (X23 : Nat → Nat → Nat → Int32 → Nat → Nat → HS → Prop) (v1 : Nat) (v2 : Nat) (v3 : Nat) (v4 : Int32) (kk : Nat) (nn : Nat) (S : HS) : Prop := ∀ x1 : Int32, x1 = v4 + (1 : Int32) → (vp_in x1 scL ∧ ∀ x3 : Int32, x3 = scx x1.toNatClampNeg → (∀ x4 : Int32, x4 = v4 + (2 : Int32) → (vp_in x4 scL ∧ ∀ x6 : Int32, x6 = scx x4.toNatClampNeg → (∀ x7 : Int32, x7 = v4 + (3 : Int32) → (vp_in x7 scL ∧ ∀ x9 : Int32, x9 = scx x7.toNatClampNeg → (∀ x10 : Int32, x10 = v4 + (4 : Int32) → (vp_in x10 scL ∧ ∀ x12 : Int32, x12 = scx x10.toNatClampNeg → (ob S v1 9 ∧ (kk ≤ rm_L_law.cells ∧ nn ≤ rm_L_law.slots ∧ (P_X9_worst v1 x3 x6 x9 x12 (fun x15 S13 => Gr S S13 → (∀ x16 : Int32, x16 = v4 + (1 : Int32) → (vp_in x16 scL ∧ ∀ x18 : Int32, x18 = scx x16.toNatClampNeg → (∀ x19 : Int32, x19 = v4 + (2 : Int32) → (vp_in x19 scL ∧ ∀ x21 : Int32, x21 = scx x19.toNatClampNeg → (∀ x22 : Int32, x22 = v4 + (3 : Int32) → (vp_in x22 scL ∧ ∀ x24 : Int32, x24 = scx x22.toNatClampNeg → (∀ x25 : Int32, x25 = v4 + (4 : Int32) → (vp_in x25 scL ∧ ∀ x27 : Int32, x27 = scx x25.toNatClampNeg → (ob S13 v2 11 ∧ (kk ≤ rm_L_law.cells ∧ nn ≤ rm_L_law.slots ∧ (P_X11_worst v2 x18 x21 x24 x27 (fun x30 S28 => Gr S13 S28 → (P_L_law_2341 scL scx Q X23 v1 v2 v3 v4 kk nn S28)) S13)))))))))))) S))))))))))
set_option maxRecDepth 20000 in
set_option maxHeartbeats 4000000 in
theorem T_L_law_984 {X : CX} {Q : Int32 → HS → Prop} {scb scL : Nat} {scx : Nat → Int32} (C : Cx X cL_law RL 7 rm_L_law) (E : LE X scb scL scx Q) (ht : LD X) (hn : True) {X23 : Nat → Nat → Nat → Int32 → Nat → Nat → HS → Prop} (hX23 : ∀ (v1 : Nat) (v2 : Nat) (v3 : Nat) (v4 : Int32) (kk : Nat) (nn : Nat) (S : HS), X23 v1 v2 v3 v4 kk nn S → WS X 7 kk nn 23 [(0, .ref scb), (1, .ref v1), (2, .ref v2), (3, .ref v3), (4, .int v4)] [] S) {v1 : Nat} {v2 : Nat} {v3 : Nat} {v4 : Int32} {kk : Nat} {nn : Nat} {S : HS} (h : P_L_law_984 scL scx Q X23 v1 v2 v3 v4 kk nn S) : WS X 7 kk nn 984 [(0, .ref scb), (1, .ref v1), (2, .ref v2), (3, .ref v3), (4, .int v4)] [] S := by
  refine r_aload_n (pc := 984) C dL_law_984 1 rfl ?_
  refine r_aload_n (pc := 985) C dL_law_985 0 rfl ?_
  refine r_iload (pc := 986) C dL_law_986 4 rfl ?_
  refine r_iconst (pc := 988) C (v := (1 : Int32)) dL_law_988 (by decide) ?_
  refine r_iadd (pc := 989) C dL_law_989 ?_
  refine r_topi (fun x1 ex1 => ?_)
  have h := h x1 ex1
  obtain ⟨i2, h⟩ := h
  refine r_scLd (pc := 990) C E i2 dL_law_990 ?_
  refine r_topi (fun x3 ex3 => ?_)
  have h := h x3 ex3
  refine r_aload_n (pc := 991) C dL_law_991 0 rfl ?_
  refine r_iload (pc := 992) C dL_law_992 4 rfl ?_
  refine r_iconst (pc := 994) C (v := (2 : Int32)) dL_law_994 (by decide) ?_
  refine r_iadd (pc := 995) C dL_law_995 ?_
  refine r_topi (fun x4 ex4 => ?_)
  have h := h x4 ex4
  obtain ⟨i5, h⟩ := h
  refine r_scLd (pc := 996) C E i5 dL_law_996 ?_
  refine r_topi (fun x6 ex6 => ?_)
  have h := h x6 ex6
  refine r_aload_n (pc := 997) C dL_law_997 0 rfl ?_
  refine r_iload (pc := 998) C dL_law_998 4 rfl ?_
  refine r_iconst (pc := 1000) C (v := (3 : Int32)) dL_law_1000 (by decide) ?_
  refine r_iadd (pc := 1001) C dL_law_1001 ?_
  refine r_topi (fun x7 ex7 => ?_)
  have h := h x7 ex7
  obtain ⟨i8, h⟩ := h
  refine r_scLd (pc := 1002) C E i8 dL_law_1002 ?_
  refine r_topi (fun x9 ex9 => ?_)
  have h := h x9 ex9
  refine r_aload_n (pc := 1003) C dL_law_1003 0 rfl ?_
  refine r_iload (pc := 1004) C dL_law_1004 4 rfl ?_
  refine r_iconst (pc := 1006) C (v := (4 : Int32)) dL_law_1006 (by decide) ?_
  refine r_iadd (pc := 1007) C dL_law_1007 ?_
  refine r_topi (fun x10 ex10 => ?_)
  have h := h x10 ex10
  obtain ⟨i11, h⟩ := h
  refine r_scLd (pc := 1008) C E i11 dL_law_1008 ?_
  refine r_topi (fun x12 ex12 => ?_)
  have h := h x12 ex12
  obtain ⟨o_v1, h⟩ := h
  obtain ⟨hk, hk2, h⟩ := h
  refine r_callVi0 (pc := 1009) C (rest := []) (a := v1) o_v1 [.int x3, .int x6, .int x9, .int x12] yV_X9_worst g_775 (c_X9_worst h) dL_law_1009 rfl rfl (Nat.le_of_ble_eq_true rfl) ⟨by decide, by decide⟩ ⟨hk, hk2⟩ ⟨rfl, rfl⟩ (fun x15 S13 h g14 => ?_)
  have h := h g14
  have o_v1 := gr_ob g14 o_v1
  refine r_pop (pc := 1012) C dL_law_1012 rfl ?_
  refine r_aload_n (pc := 1013) C dL_law_1013 2 rfl ?_
  refine r_aload_n (pc := 1014) C dL_law_1014 0 rfl ?_
  refine r_iload (pc := 1015) C dL_law_1015 4 rfl ?_
  refine r_iconst (pc := 1017) C (v := (1 : Int32)) dL_law_1017 (by decide) ?_
  refine r_iadd (pc := 1018) C dL_law_1018 ?_
  refine r_topi (fun x16 ex16 => ?_)
  have h := h x16 ex16
  obtain ⟨i17, h⟩ := h
  refine r_scLd (pc := 1019) C E i17 dL_law_1019 ?_
  refine r_topi (fun x18 ex18 => ?_)
  have h := h x18 ex18
  refine r_aload_n (pc := 1020) C dL_law_1020 0 rfl ?_
  refine r_iload (pc := 1021) C dL_law_1021 4 rfl ?_
  refine r_iconst (pc := 1023) C (v := (2 : Int32)) dL_law_1023 (by decide) ?_
  refine r_iadd (pc := 1024) C dL_law_1024 ?_
  refine r_topi (fun x19 ex19 => ?_)
  have h := h x19 ex19
  obtain ⟨i20, h⟩ := h
  refine r_scLd (pc := 1025) C E i20 dL_law_1025 ?_
  refine r_topi (fun x21 ex21 => ?_)
  have h := h x21 ex21
  refine r_aload_n (pc := 1026) C dL_law_1026 0 rfl ?_
  refine r_iload (pc := 1027) C dL_law_1027 4 rfl ?_
  refine r_iconst (pc := 1029) C (v := (3 : Int32)) dL_law_1029 (by decide) ?_
  refine r_iadd (pc := 1030) C dL_law_1030 ?_
  refine r_topi (fun x22 ex22 => ?_)
  have h := h x22 ex22
  obtain ⟨i23, h⟩ := h
  refine r_scLd (pc := 1031) C E i23 dL_law_1031 ?_
  refine r_topi (fun x24 ex24 => ?_)
  have h := h x24 ex24
  refine r_aload_n (pc := 1032) C dL_law_1032 0 rfl ?_
  refine r_iload (pc := 1033) C dL_law_1033 4 rfl ?_
  refine r_iconst (pc := 1035) C (v := (4 : Int32)) dL_law_1035 (by decide) ?_
  refine r_iadd (pc := 1036) C dL_law_1036 ?_
  refine r_topi (fun x25 ex25 => ?_)
  have h := h x25 ex25
  obtain ⟨i26, h⟩ := h
  refine r_scLd (pc := 1037) C E i26 dL_law_1037 ?_
  refine r_topi (fun x27 ex27 => ?_)
  have h := h x27 ex27
  obtain ⟨o_v2, h⟩ := h
  obtain ⟨hk, hk2, h⟩ := h
  refine r_callVi0 (pc := 1038) C (rest := []) (a := v2) o_v2 [.int x18, .int x21, .int x24, .int x27] yV_X11_worst g_1635 (c_X11_worst h) dL_law_1038 rfl rfl (Nat.le_of_ble_eq_true rfl) ⟨by decide, by decide⟩ ⟨hk, hk2⟩ ⟨rfl, rfl⟩ (fun x30 S28 h g29 => ?_)
  have h := h g29
  have o_v1 := gr_ob g29 o_v1
  have o_v2 := gr_ob g29 o_v2
  refine r_pop (pc := 1041) C dL_law_1041 rfl ?_
  refine r_goto (pc := 1042) C (tgt := 2341) dL_law_1042 (by decide) ?_
  exact r_sub [0, 1, 2, 3, 4] rfl (T_L_law_2341 C E ht hn hX23 h)
def P_L_law_1045 (scL : Nat) (scx : Nat → Int32) (Q : Int32 → HS → Prop) (X23 : Nat → Nat → Nat → Int32 → Nat → Nat → HS → Prop) (v1 : Nat) (v2 : Nat) (v3 : Nat) (v4 : Int32) (kk : Nat) (nn : Nat) (S : HS) : Prop := ∀ x1 : Int32, x1 = v4 + (1 : Int32) → (vp_in x1 scL ∧ ∀ x3 : Int32, x3 = scx x1.toNatClampNeg → (∀ x4 : Int32, x4 = v4 + (2 : Int32) → (vp_in x4 scL ∧ ∀ x6 : Int32, x6 = scx x4.toNatClampNeg → (∀ x7 : Int32, x7 = v4 + (3 : Int32) → (vp_in x7 scL ∧ ∀ x9 : Int32, x9 = scx x7.toNatClampNeg → (∀ x10 : Int32, x10 = v4 + (4 : Int32) → (vp_in x10 scL ∧ ∀ x12 : Int32, x12 = scx x10.toNatClampNeg → (ob S v1 9 ∧ (kk ≤ rm_L_law.cells ∧ nn ≤ rm_L_law.slots ∧ (P_X9_even v1 x3 x6 x9 x12 (fun x15 S13 => Gr S S13 → (∀ x16 : Int32, x16 = v4 + (1 : Int32) → (vp_in x16 scL ∧ ∀ x18 : Int32, x18 = scx x16.toNatClampNeg → (∀ x19 : Int32, x19 = v4 + (2 : Int32) → (vp_in x19 scL ∧ ∀ x21 : Int32, x21 = scx x19.toNatClampNeg → (∀ x22 : Int32, x22 = v4 + (3 : Int32) → (vp_in x22 scL ∧ ∀ x24 : Int32, x24 = scx x22.toNatClampNeg → (∀ x25 : Int32, x25 = v4 + (4 : Int32) → (vp_in x25 scL ∧ ∀ x27 : Int32, x27 = scx x25.toNatClampNeg → (ob S13 v2 11 ∧ (kk ≤ rm_L_law.cells ∧ nn ≤ rm_L_law.slots ∧ (P_X11_even v2 x18 x21 x24 x27 (fun x30 S28 => Gr S13 S28 → (P_L_law_2341 scL scx Q X23 v1 v2 v3 v4 kk nn S28)) S13)))))))))))) S))))))))))
set_option maxRecDepth 20000 in
set_option maxHeartbeats 4000000 in
theorem T_L_law_1045 {X : CX} {Q : Int32 → HS → Prop} {scb scL : Nat} {scx : Nat → Int32} (C : Cx X cL_law RL 7 rm_L_law) (E : LE X scb scL scx Q) (ht : LD X) (hn : True) {X23 : Nat → Nat → Nat → Int32 → Nat → Nat → HS → Prop} (hX23 : ∀ (v1 : Nat) (v2 : Nat) (v3 : Nat) (v4 : Int32) (kk : Nat) (nn : Nat) (S : HS), X23 v1 v2 v3 v4 kk nn S → WS X 7 kk nn 23 [(0, .ref scb), (1, .ref v1), (2, .ref v2), (3, .ref v3), (4, .int v4)] [] S) {v1 : Nat} {v2 : Nat} {v3 : Nat} {v4 : Int32} {kk : Nat} {nn : Nat} {S : HS} (h : P_L_law_1045 scL scx Q X23 v1 v2 v3 v4 kk nn S) : WS X 7 kk nn 1045 [(0, .ref scb), (1, .ref v1), (2, .ref v2), (3, .ref v3), (4, .int v4)] [] S := by
  refine r_aload_n (pc := 1045) C dL_law_1045 1 rfl ?_
  refine r_aload_n (pc := 1046) C dL_law_1046 0 rfl ?_
  refine r_iload (pc := 1047) C dL_law_1047 4 rfl ?_
  refine r_iconst (pc := 1049) C (v := (1 : Int32)) dL_law_1049 (by decide) ?_
  refine r_iadd (pc := 1050) C dL_law_1050 ?_
  refine r_topi (fun x1 ex1 => ?_)
  have h := h x1 ex1
  obtain ⟨i2, h⟩ := h
  refine r_scLd (pc := 1051) C E i2 dL_law_1051 ?_
  refine r_topi (fun x3 ex3 => ?_)
  have h := h x3 ex3
  refine r_aload_n (pc := 1052) C dL_law_1052 0 rfl ?_
  refine r_iload (pc := 1053) C dL_law_1053 4 rfl ?_
  refine r_iconst (pc := 1055) C (v := (2 : Int32)) dL_law_1055 (by decide) ?_
  refine r_iadd (pc := 1056) C dL_law_1056 ?_
  refine r_topi (fun x4 ex4 => ?_)
  have h := h x4 ex4
  obtain ⟨i5, h⟩ := h
  refine r_scLd (pc := 1057) C E i5 dL_law_1057 ?_
  refine r_topi (fun x6 ex6 => ?_)
  have h := h x6 ex6
  refine r_aload_n (pc := 1058) C dL_law_1058 0 rfl ?_
  refine r_iload (pc := 1059) C dL_law_1059 4 rfl ?_
  refine r_iconst (pc := 1061) C (v := (3 : Int32)) dL_law_1061 (by decide) ?_
  refine r_iadd (pc := 1062) C dL_law_1062 ?_
  refine r_topi (fun x7 ex7 => ?_)
  have h := h x7 ex7
  obtain ⟨i8, h⟩ := h
  refine r_scLd (pc := 1063) C E i8 dL_law_1063 ?_
  refine r_topi (fun x9 ex9 => ?_)
  have h := h x9 ex9
  refine r_aload_n (pc := 1064) C dL_law_1064 0 rfl ?_
  refine r_iload (pc := 1065) C dL_law_1065 4 rfl ?_
  refine r_iconst (pc := 1067) C (v := (4 : Int32)) dL_law_1067 (by decide) ?_
  refine r_iadd (pc := 1068) C dL_law_1068 ?_
  refine r_topi (fun x10 ex10 => ?_)
  have h := h x10 ex10
  obtain ⟨i11, h⟩ := h
  refine r_scLd (pc := 1069) C E i11 dL_law_1069 ?_
  refine r_topi (fun x12 ex12 => ?_)
  have h := h x12 ex12
  obtain ⟨o_v1, h⟩ := h
  obtain ⟨hk, hk2, h⟩ := h
  refine r_callVi0 (pc := 1070) C (rest := []) (a := v1) o_v1 [.int x3, .int x6, .int x9, .int x12] yV_X9_even g_784 (c_X9_even h) dL_law_1070 rfl rfl (Nat.le_of_ble_eq_true rfl) ⟨by decide, by decide⟩ ⟨hk, hk2⟩ ⟨rfl, rfl⟩ (fun x15 S13 h g14 => ?_)
  have h := h g14
  have o_v1 := gr_ob g14 o_v1
  refine r_pop (pc := 1073) C dL_law_1073 rfl ?_
  refine r_aload_n (pc := 1074) C dL_law_1074 2 rfl ?_
  refine r_aload_n (pc := 1075) C dL_law_1075 0 rfl ?_
  refine r_iload (pc := 1076) C dL_law_1076 4 rfl ?_
  refine r_iconst (pc := 1078) C (v := (1 : Int32)) dL_law_1078 (by decide) ?_
  refine r_iadd (pc := 1079) C dL_law_1079 ?_
  refine r_topi (fun x16 ex16 => ?_)
  have h := h x16 ex16
  obtain ⟨i17, h⟩ := h
  refine r_scLd (pc := 1080) C E i17 dL_law_1080 ?_
  refine r_topi (fun x18 ex18 => ?_)
  have h := h x18 ex18
  refine r_aload_n (pc := 1081) C dL_law_1081 0 rfl ?_
  refine r_iload (pc := 1082) C dL_law_1082 4 rfl ?_
  refine r_iconst (pc := 1084) C (v := (2 : Int32)) dL_law_1084 (by decide) ?_
  refine r_iadd (pc := 1085) C dL_law_1085 ?_
  refine r_topi (fun x19 ex19 => ?_)
  have h := h x19 ex19
  obtain ⟨i20, h⟩ := h
  refine r_scLd (pc := 1086) C E i20 dL_law_1086 ?_
  refine r_topi (fun x21 ex21 => ?_)
  have h := h x21 ex21
  refine r_aload_n (pc := 1087) C dL_law_1087 0 rfl ?_
  refine r_iload (pc := 1088) C dL_law_1088 4 rfl ?_
  refine r_iconst (pc := 1090) C (v := (3 : Int32)) dL_law_1090 (by decide) ?_
  refine r_iadd (pc := 1091) C dL_law_1091 ?_
  refine r_topi (fun x22 ex22 => ?_)
  have h := h x22 ex22
  obtain ⟨i23, h⟩ := h
  refine r_scLd (pc := 1092) C E i23 dL_law_1092 ?_
  refine r_topi (fun x24 ex24 => ?_)
  have h := h x24 ex24
  refine r_aload_n (pc := 1093) C dL_law_1093 0 rfl ?_
  refine r_iload (pc := 1094) C dL_law_1094 4 rfl ?_
  refine r_iconst (pc := 1096) C (v := (4 : Int32)) dL_law_1096 (by decide) ?_
  refine r_iadd (pc := 1097) C dL_law_1097 ?_
  refine r_topi (fun x25 ex25 => ?_)
  have h := h x25 ex25
  obtain ⟨i26, h⟩ := h
  refine r_scLd (pc := 1098) C E i26 dL_law_1098 ?_
  refine r_topi (fun x27 ex27 => ?_)
  have h := h x27 ex27
  obtain ⟨o_v2, h⟩ := h
  obtain ⟨hk, hk2, h⟩ := h
  refine r_callVi0 (pc := 1099) C (rest := []) (a := v2) o_v2 [.int x18, .int x21, .int x24, .int x27] yV_X11_even g_1639 (c_X11_even h) dL_law_1099 rfl rfl (Nat.le_of_ble_eq_true rfl) ⟨by decide, by decide⟩ ⟨hk, hk2⟩ ⟨rfl, rfl⟩ (fun x30 S28 h g29 => ?_)
  have h := h g29
  have o_v1 := gr_ob g29 o_v1
  have o_v2 := gr_ob g29 o_v2
  refine r_pop (pc := 1102) C dL_law_1102 rfl ?_
  refine r_goto (pc := 1103) C (tgt := 2341) dL_law_1103 (by decide) ?_
  exact r_sub [0, 1, 2, 3, 4] rfl (T_L_law_2341 C E ht hn hX23 h)
def P_L_law_1176 (scL : Nat) (scx : Nat → Int32) (Q : Int32 → HS → Prop) (X23 : Nat → Nat → Nat → Int32 → Nat → Nat → HS → Prop) (v1 : Nat) (v2 : Nat) (v3 : Nat) (v4 : Int32) (s0 : Nat) (s1 : Int32) (s2 : Int32) (s3 : Int32) (s4 : Int32) (kk : Nat) (nn : Nat) (S : HS) : Prop := ob S s0 11 ∧ (kk ≤ rm_L_law.cells ∧ nn ≤ rm_L_law.slots ∧ (P_X11_round s0 s1 s2 s3 s4 (fun x3 S1 => Gr S S1 → (P_L_law_2341 scL scx Q X23 v1 v2 v3 v4 kk nn S1)) S))
set_option maxRecDepth 20000 in
set_option maxHeartbeats 4000000 in
theorem T_L_law_1176 {X : CX} {Q : Int32 → HS → Prop} {scb scL : Nat} {scx : Nat → Int32} (C : Cx X cL_law RL 7 rm_L_law) (E : LE X scb scL scx Q) (ht : LD X) (hn : True) {X23 : Nat → Nat → Nat → Int32 → Nat → Nat → HS → Prop} (hX23 : ∀ (v1 : Nat) (v2 : Nat) (v3 : Nat) (v4 : Int32) (kk : Nat) (nn : Nat) (S : HS), X23 v1 v2 v3 v4 kk nn S → WS X 7 kk nn 23 [(0, .ref scb), (1, .ref v1), (2, .ref v2), (3, .ref v3), (4, .int v4)] [] S) {v1 : Nat} {v2 : Nat} {v3 : Nat} {v4 : Int32} {s0 : Nat} {s1 : Int32} {s2 : Int32} {s3 : Int32} {s4 : Int32} {kk : Nat} {nn : Nat} {S : HS} (h : P_L_law_1176 scL scx Q X23 v1 v2 v3 v4 s0 s1 s2 s3 s4 kk nn S) : WS X 7 kk nn 1176 [(0, .ref scb), (1, .ref v1), (2, .ref v2), (3, .ref v3), (4, .int v4)] [.int s4, .int s3, .int s2, .int s1, .ref s0] S := by
  obtain ⟨o_s0, h⟩ := h
  obtain ⟨hk, hk2, h⟩ := h
  refine r_callVl0 (pc := 1176) C (rest := []) (a := s0) o_s0 [.int s1, .int s2, .int s3, .int s4] yV_X11_round g_1643 (c_X11_round h) dL_law_1176 rfl rfl (Nat.le_of_ble_eq_true rfl) ⟨by decide, by decide⟩ ⟨hk, hk2⟩ ⟨rfl, rfl⟩ (fun x3 S1 h g2 => ?_)
  have h := h g2
  have o_s0 := gr_ob g2 o_s0
  refine r_pop2 (pc := 1179) C dL_law_1179 rfl ?_
  refine r_goto (pc := 1180) C (tgt := 2341) dL_law_1180 (by decide) ?_
  exact r_sub [0, 1, 2, 3, 4] rfl (T_L_law_2341 C E ht hn hX23 h)
def P_L_law_1139 (scL : Nat) (scx : Nat → Int32) (Q : Int32 → HS → Prop) (X23 : Nat → Nat → Nat → Int32 → Nat → Nat → HS → Prop) (v1 : Nat) (v2 : Nat) (v3 : Nat) (v4 : Int32) (s0 : Nat) (s1 : Int32) (s2 : Int32) (s3 : Int32) (s4 : Int32) (kk : Nat) (nn : Nat) (S : HS) : Prop := ob S s0 9 ∧ (kk ≤ rm_L_law.cells ∧ nn ≤ rm_L_law.slots ∧ (P_X9_round s0 s1 s2 s3 s4 (fun x3 S1 => Gr S S1 → (∀ x4 : Int32, x4 = v4 + (1 : Int32) → (vp_in x4 scL ∧ ∀ x6 : Int32, x6 = scx x4.toNatClampNeg → (∀ x7 : Int32, x7 = v4 + (2 : Int32) → (vp_in x7 scL ∧ ∀ x9 : Int32, x9 = scx x7.toNatClampNeg → (∀ x10 : Int32, x10 = v4 + (3 : Int32) → (vp_in x10 scL ∧ ∀ x12 : Int32, x12 = scx x10.toNatClampNeg → (∀ x13 : Int32, x13 = v4 + (4 : Int32) → (vp_in x13 scL ∧ ∀ x15 : Int32, x15 = scx x13.toNatClampNeg → (((x15 = 0) → (P_L_law_1176 scL scx Q X23 v1 v2 v3 v4 v2 x6 x9 x12 (0 : Int32) kk nn S1)) ∧ ((¬ x15 = 0) → (P_L_law_1176 scL scx Q X23 v1 v2 v3 v4 v2 x6 x9 x12 (1 : Int32) kk nn S1)))))))))))) S))
set_option maxRecDepth 20000 in
set_option maxHeartbeats 4000000 in
theorem T_L_law_1139 {X : CX} {Q : Int32 → HS → Prop} {scb scL : Nat} {scx : Nat → Int32} (C : Cx X cL_law RL 7 rm_L_law) (E : LE X scb scL scx Q) (ht : LD X) (hn : True) {X23 : Nat → Nat → Nat → Int32 → Nat → Nat → HS → Prop} (hX23 : ∀ (v1 : Nat) (v2 : Nat) (v3 : Nat) (v4 : Int32) (kk : Nat) (nn : Nat) (S : HS), X23 v1 v2 v3 v4 kk nn S → WS X 7 kk nn 23 [(0, .ref scb), (1, .ref v1), (2, .ref v2), (3, .ref v3), (4, .int v4)] [] S) {v1 : Nat} {v2 : Nat} {v3 : Nat} {v4 : Int32} {s0 : Nat} {s1 : Int32} {s2 : Int32} {s3 : Int32} {s4 : Int32} {kk : Nat} {nn : Nat} {S : HS} (h : P_L_law_1139 scL scx Q X23 v1 v2 v3 v4 s0 s1 s2 s3 s4 kk nn S) : WS X 7 kk nn 1139 [(0, .ref scb), (1, .ref v1), (2, .ref v2), (3, .ref v3), (4, .int v4)] [.int s4, .int s3, .int s2, .int s1, .ref s0] S := by
  obtain ⟨o_s0, h⟩ := h
  obtain ⟨hk, hk2, h⟩ := h
  refine r_callVl0 (pc := 1139) C (rest := []) (a := s0) o_s0 [.int s1, .int s2, .int s3, .int s4] yV_X9_round g_788 (c_X9_round h) dL_law_1139 rfl rfl (Nat.le_of_ble_eq_true rfl) ⟨by decide, by decide⟩ ⟨hk, hk2⟩ ⟨rfl, rfl⟩ (fun x3 S1 h g2 => ?_)
  have h := h g2
  have o_s0 := gr_ob g2 o_s0
  refine r_pop2 (pc := 1142) C dL_law_1142 rfl ?_
  refine r_aload_n (pc := 1143) C dL_law_1143 2 rfl ?_
  refine r_aload_n (pc := 1144) C dL_law_1144 0 rfl ?_
  refine r_iload (pc := 1145) C dL_law_1145 4 rfl ?_
  refine r_iconst (pc := 1147) C (v := (1 : Int32)) dL_law_1147 (by decide) ?_
  refine r_iadd (pc := 1148) C dL_law_1148 ?_
  refine r_topi (fun x4 ex4 => ?_)
  have h := h x4 ex4
  obtain ⟨i5, h⟩ := h
  refine r_scLd (pc := 1149) C E i5 dL_law_1149 ?_
  refine r_topi (fun x6 ex6 => ?_)
  have h := h x6 ex6
  refine r_aload_n (pc := 1150) C dL_law_1150 0 rfl ?_
  refine r_iload (pc := 1151) C dL_law_1151 4 rfl ?_
  refine r_iconst (pc := 1153) C (v := (2 : Int32)) dL_law_1153 (by decide) ?_
  refine r_iadd (pc := 1154) C dL_law_1154 ?_
  refine r_topi (fun x7 ex7 => ?_)
  have h := h x7 ex7
  obtain ⟨i8, h⟩ := h
  refine r_scLd (pc := 1155) C E i8 dL_law_1155 ?_
  refine r_topi (fun x9 ex9 => ?_)
  have h := h x9 ex9
  refine r_aload_n (pc := 1156) C dL_law_1156 0 rfl ?_
  refine r_iload (pc := 1157) C dL_law_1157 4 rfl ?_
  refine r_iconst (pc := 1159) C (v := (3 : Int32)) dL_law_1159 (by decide) ?_
  refine r_iadd (pc := 1160) C dL_law_1160 ?_
  refine r_topi (fun x10 ex10 => ?_)
  have h := h x10 ex10
  obtain ⟨i11, h⟩ := h
  refine r_scLd (pc := 1161) C E i11 dL_law_1161 ?_
  refine r_topi (fun x12 ex12 => ?_)
  have h := h x12 ex12
  refine r_aload_n (pc := 1162) C dL_law_1162 0 rfl ?_
  refine r_iload (pc := 1163) C dL_law_1163 4 rfl ?_
  refine r_iconst (pc := 1165) C (v := (4 : Int32)) dL_law_1165 (by decide) ?_
  refine r_iadd (pc := 1166) C dL_law_1166 ?_
  refine r_topi (fun x13 ex13 => ?_)
  have h := h x13 ex13
  obtain ⟨i14, h⟩ := h
  refine r_scLd (pc := 1167) C E i14 dL_law_1167 ?_
  refine r_topi (fun x15 ex15 => ?_)
  have h := h x15 ex15
  refine r_if_eq (pc := 1168) C (tgt := 1175) dL_law_1168 (by decide) (fun c16 => ?_) (fun c16 => ?_)
  · have h := h.1 c16
    refine r_iconst (pc := 1175) C (v := (0 : Int32)) dL_law_1175 (by decide) ?_
    exact r_sub [0, 1, 2, 3, 4] rfl (T_L_law_1176 C E ht hn hX23 h)
  · have h := h.2 c16
    refine r_iconst (pc := 1171) C (v := (1 : Int32)) dL_law_1171 (by decide) ?_
    refine r_goto (pc := 1172) C (tgt := 1176) dL_law_1172 (by decide) ?_
    exact r_sub [0, 1, 2, 3, 4] rfl (T_L_law_1176 C E ht hn hX23 h)
def P_L_law_1106 (scL : Nat) (scx : Nat → Int32) (Q : Int32 → HS → Prop) (X23 : Nat → Nat → Nat → Int32 → Nat → Nat → HS → Prop) (v1 : Nat) (v2 : Nat) (v3 : Nat) (v4 : Int32) (kk : Nat) (nn : Nat) (S : HS) : Prop := ∀ x1 : Int32, x1 = v4 + (1 : Int32) → (vp_in x1 scL ∧ ∀ x3 : Int32, x3 = scx x1.toNatClampNeg → (∀ x4 : Int32, x4 = v4 + (2 : Int32) → (vp_in x4 scL ∧ ∀ x6 : Int32, x6 = scx x4.toNatClampNeg → (∀ x7 : Int32, x7 = v4 + (3 : Int32) → (vp_in x7 scL ∧ ∀ x9 : Int32, x9 = scx x7.toNatClampNeg → (∀ x10 : Int32, x10 = v4 + (4 : Int32) → (vp_in x10 scL ∧ ∀ x12 : Int32, x12 = scx x10.toNatClampNeg → (((x12 = 0) → (P_L_law_1139 scL scx Q X23 v1 v2 v3 v4 v1 x3 x6 x9 (0 : Int32) kk nn S)) ∧ ((¬ x12 = 0) → (P_L_law_1139 scL scx Q X23 v1 v2 v3 v4 v1 x3 x6 x9 (1 : Int32) kk nn S))))))))))
set_option maxRecDepth 20000 in
set_option maxHeartbeats 4000000 in
theorem T_L_law_1106 {X : CX} {Q : Int32 → HS → Prop} {scb scL : Nat} {scx : Nat → Int32} (C : Cx X cL_law RL 7 rm_L_law) (E : LE X scb scL scx Q) (ht : LD X) (hn : True) {X23 : Nat → Nat → Nat → Int32 → Nat → Nat → HS → Prop} (hX23 : ∀ (v1 : Nat) (v2 : Nat) (v3 : Nat) (v4 : Int32) (kk : Nat) (nn : Nat) (S : HS), X23 v1 v2 v3 v4 kk nn S → WS X 7 kk nn 23 [(0, .ref scb), (1, .ref v1), (2, .ref v2), (3, .ref v3), (4, .int v4)] [] S) {v1 : Nat} {v2 : Nat} {v3 : Nat} {v4 : Int32} {kk : Nat} {nn : Nat} {S : HS} (h : P_L_law_1106 scL scx Q X23 v1 v2 v3 v4 kk nn S) : WS X 7 kk nn 1106 [(0, .ref scb), (1, .ref v1), (2, .ref v2), (3, .ref v3), (4, .int v4)] [] S := by
  refine r_aload_n (pc := 1106) C dL_law_1106 1 rfl ?_
  refine r_aload_n (pc := 1107) C dL_law_1107 0 rfl ?_
  refine r_iload (pc := 1108) C dL_law_1108 4 rfl ?_
  refine r_iconst (pc := 1110) C (v := (1 : Int32)) dL_law_1110 (by decide) ?_
  refine r_iadd (pc := 1111) C dL_law_1111 ?_
  refine r_topi (fun x1 ex1 => ?_)
  have h := h x1 ex1
  obtain ⟨i2, h⟩ := h
  refine r_scLd (pc := 1112) C E i2 dL_law_1112 ?_
  refine r_topi (fun x3 ex3 => ?_)
  have h := h x3 ex3
  refine r_aload_n (pc := 1113) C dL_law_1113 0 rfl ?_
  refine r_iload (pc := 1114) C dL_law_1114 4 rfl ?_
  refine r_iconst (pc := 1116) C (v := (2 : Int32)) dL_law_1116 (by decide) ?_
  refine r_iadd (pc := 1117) C dL_law_1117 ?_
  refine r_topi (fun x4 ex4 => ?_)
  have h := h x4 ex4
  obtain ⟨i5, h⟩ := h
  refine r_scLd (pc := 1118) C E i5 dL_law_1118 ?_
  refine r_topi (fun x6 ex6 => ?_)
  have h := h x6 ex6
  refine r_aload_n (pc := 1119) C dL_law_1119 0 rfl ?_
  refine r_iload (pc := 1120) C dL_law_1120 4 rfl ?_
  refine r_iconst (pc := 1122) C (v := (3 : Int32)) dL_law_1122 (by decide) ?_
  refine r_iadd (pc := 1123) C dL_law_1123 ?_
  refine r_topi (fun x7 ex7 => ?_)
  have h := h x7 ex7
  obtain ⟨i8, h⟩ := h
  refine r_scLd (pc := 1124) C E i8 dL_law_1124 ?_
  refine r_topi (fun x9 ex9 => ?_)
  have h := h x9 ex9
  refine r_aload_n (pc := 1125) C dL_law_1125 0 rfl ?_
  refine r_iload (pc := 1126) C dL_law_1126 4 rfl ?_
  refine r_iconst (pc := 1128) C (v := (4 : Int32)) dL_law_1128 (by decide) ?_
  refine r_iadd (pc := 1129) C dL_law_1129 ?_
  refine r_topi (fun x10 ex10 => ?_)
  have h := h x10 ex10
  obtain ⟨i11, h⟩ := h
  refine r_scLd (pc := 1130) C E i11 dL_law_1130 ?_
  refine r_topi (fun x12 ex12 => ?_)
  have h := h x12 ex12
  refine r_if_eq (pc := 1131) C (tgt := 1138) dL_law_1131 (by decide) (fun c13 => ?_) (fun c13 => ?_)
  · have h := h.1 c13
    refine r_iconst (pc := 1138) C (v := (0 : Int32)) dL_law_1138 (by decide) ?_
    exact r_sub [0, 1, 2, 3, 4] rfl (T_L_law_1139 C E ht hn hX23 h)
  · have h := h.2 c13
    refine r_iconst (pc := 1134) C (v := (1 : Int32)) dL_law_1134 (by decide) ?_
    refine r_goto (pc := 1135) C (tgt := 1139) dL_law_1135 (by decide) ?_
    exact r_sub [0, 1, 2, 3, 4] rfl (T_L_law_1139 C E ht hn hX23 h)
def P_L_law_1183 (scL : Nat) (scx : Nat → Int32) (Q : Int32 → HS → Prop) (X23 : Nat → Nat → Nat → Int32 → Nat → Nat → HS → Prop) (v1 : Nat) (v2 : Nat) (v3 : Nat) (v4 : Int32) (kk : Nat) (nn : Nat) (S : HS) : Prop := ∀ x1 : Int32, x1 = v4 + (1 : Int32) → (vp_in x1 scL ∧ ∀ x3 : Int32, x3 = scx x1.toNatClampNeg → (∀ x4 : Int32, x4 = v4 + (2 : Int32) → (vp_in x4 scL ∧ ∀ x6 : Int32, x6 = scx x4.toNatClampNeg → (∀ x7 : Int32, x7 = v4 + (3 : Int32) → (vp_in x7 scL ∧ ∀ x9 : Int32, x9 = scx x7.toNatClampNeg → (ob S v1 9 ∧ (kk ≤ rm_L_law.cells ∧ nn ≤ rm_L_law.slots ∧ (P_X9_driest v1 x3 x6 x9 (fun x12 S10 => Gr S S10 → (∀ x13 : Int32, x13 = v4 + (1 : Int32) → (vp_in x13 scL ∧ ∀ x15 : Int32, x15 = scx x13.toNatClampNeg → (∀ x16 : Int32, x16 = v4 + (2 : Int32) → (vp_in x16 scL ∧ ∀ x18 : Int32, x18 = scx x16.toNatClampNeg → (∀ x19 : Int32, x19 = v4 + (3 : Int32) → (vp_in x19 scL ∧ ∀ x21 : Int32, x21 = scx x19.toNatClampNeg → (ob S10 v2 11 ∧ (kk ≤ rm_L_law.cells ∧ nn ≤ rm_L_law.slots ∧ (P_X11_driest v2 x15 x18 x21 (fun x24 S22 => Gr S10 S22 → (P_L_law_2341 scL scx Q X23 v1 v2 v3 v4 kk nn S22)) S10)))))))))) S))))))))
set_option maxRecDepth 20000 in
set_option maxHeartbeats 4000000 in
theorem T_L_law_1183 {X : CX} {Q : Int32 → HS → Prop} {scb scL : Nat} {scx : Nat → Int32} (C : Cx X cL_law RL 7 rm_L_law) (E : LE X scb scL scx Q) (ht : LD X) (hn : True) {X23 : Nat → Nat → Nat → Int32 → Nat → Nat → HS → Prop} (hX23 : ∀ (v1 : Nat) (v2 : Nat) (v3 : Nat) (v4 : Int32) (kk : Nat) (nn : Nat) (S : HS), X23 v1 v2 v3 v4 kk nn S → WS X 7 kk nn 23 [(0, .ref scb), (1, .ref v1), (2, .ref v2), (3, .ref v3), (4, .int v4)] [] S) {v1 : Nat} {v2 : Nat} {v3 : Nat} {v4 : Int32} {kk : Nat} {nn : Nat} {S : HS} (h : P_L_law_1183 scL scx Q X23 v1 v2 v3 v4 kk nn S) : WS X 7 kk nn 1183 [(0, .ref scb), (1, .ref v1), (2, .ref v2), (3, .ref v3), (4, .int v4)] [] S := by
  refine r_aload_n (pc := 1183) C dL_law_1183 1 rfl ?_
  refine r_aload_n (pc := 1184) C dL_law_1184 0 rfl ?_
  refine r_iload (pc := 1185) C dL_law_1185 4 rfl ?_
  refine r_iconst (pc := 1187) C (v := (1 : Int32)) dL_law_1187 (by decide) ?_
  refine r_iadd (pc := 1188) C dL_law_1188 ?_
  refine r_topi (fun x1 ex1 => ?_)
  have h := h x1 ex1
  obtain ⟨i2, h⟩ := h
  refine r_scLd (pc := 1189) C E i2 dL_law_1189 ?_
  refine r_topi (fun x3 ex3 => ?_)
  have h := h x3 ex3
  refine r_aload_n (pc := 1190) C dL_law_1190 0 rfl ?_
  refine r_iload (pc := 1191) C dL_law_1191 4 rfl ?_
  refine r_iconst (pc := 1193) C (v := (2 : Int32)) dL_law_1193 (by decide) ?_
  refine r_iadd (pc := 1194) C dL_law_1194 ?_
  refine r_topi (fun x4 ex4 => ?_)
  have h := h x4 ex4
  obtain ⟨i5, h⟩ := h
  refine r_scLd (pc := 1195) C E i5 dL_law_1195 ?_
  refine r_topi (fun x6 ex6 => ?_)
  have h := h x6 ex6
  refine r_aload_n (pc := 1196) C dL_law_1196 0 rfl ?_
  refine r_iload (pc := 1197) C dL_law_1197 4 rfl ?_
  refine r_iconst (pc := 1199) C (v := (3 : Int32)) dL_law_1199 (by decide) ?_
  refine r_iadd (pc := 1200) C dL_law_1200 ?_
  refine r_topi (fun x7 ex7 => ?_)
  have h := h x7 ex7
  obtain ⟨i8, h⟩ := h
  refine r_scLd (pc := 1201) C E i8 dL_law_1201 ?_
  refine r_topi (fun x9 ex9 => ?_)
  have h := h x9 ex9
  obtain ⟨o_v1, h⟩ := h
  obtain ⟨hk, hk2, h⟩ := h
  refine r_callVi0 (pc := 1202) C (rest := []) (a := v1) o_v1 [.int x3, .int x6, .int x9] yV_X9_driest g_792 (c_X9_driest h) dL_law_1202 rfl rfl (Nat.le_of_ble_eq_true rfl) ⟨by decide, by decide⟩ ⟨hk, hk2⟩ ⟨rfl, rfl⟩ (fun x12 S10 h g11 => ?_)
  have h := h g11
  have o_v1 := gr_ob g11 o_v1
  refine r_pop (pc := 1205) C dL_law_1205 rfl ?_
  refine r_aload_n (pc := 1206) C dL_law_1206 2 rfl ?_
  refine r_aload_n (pc := 1207) C dL_law_1207 0 rfl ?_
  refine r_iload (pc := 1208) C dL_law_1208 4 rfl ?_
  refine r_iconst (pc := 1210) C (v := (1 : Int32)) dL_law_1210 (by decide) ?_
  refine r_iadd (pc := 1211) C dL_law_1211 ?_
  refine r_topi (fun x13 ex13 => ?_)
  have h := h x13 ex13
  obtain ⟨i14, h⟩ := h
  refine r_scLd (pc := 1212) C E i14 dL_law_1212 ?_
  refine r_topi (fun x15 ex15 => ?_)
  have h := h x15 ex15
  refine r_aload_n (pc := 1213) C dL_law_1213 0 rfl ?_
  refine r_iload (pc := 1214) C dL_law_1214 4 rfl ?_
  refine r_iconst (pc := 1216) C (v := (2 : Int32)) dL_law_1216 (by decide) ?_
  refine r_iadd (pc := 1217) C dL_law_1217 ?_
  refine r_topi (fun x16 ex16 => ?_)
  have h := h x16 ex16
  obtain ⟨i17, h⟩ := h
  refine r_scLd (pc := 1218) C E i17 dL_law_1218 ?_
  refine r_topi (fun x18 ex18 => ?_)
  have h := h x18 ex18
  refine r_aload_n (pc := 1219) C dL_law_1219 0 rfl ?_
  refine r_iload (pc := 1220) C dL_law_1220 4 rfl ?_
  refine r_iconst (pc := 1222) C (v := (3 : Int32)) dL_law_1222 (by decide) ?_
  refine r_iadd (pc := 1223) C dL_law_1223 ?_
  refine r_topi (fun x19 ex19 => ?_)
  have h := h x19 ex19
  obtain ⟨i20, h⟩ := h
  refine r_scLd (pc := 1224) C E i20 dL_law_1224 ?_
  refine r_topi (fun x21 ex21 => ?_)
  have h := h x21 ex21
  obtain ⟨o_v2, h⟩ := h
  obtain ⟨hk, hk2, h⟩ := h
  refine r_callVi0 (pc := 1225) C (rest := []) (a := v2) o_v2 [.int x15, .int x18, .int x21] yV_X11_driest g_1651 (c_X11_driest h) dL_law_1225 rfl rfl (Nat.le_of_ble_eq_true rfl) ⟨by decide, by decide⟩ ⟨hk, hk2⟩ ⟨rfl, rfl⟩ (fun x24 S22 h g23 => ?_)
  have h := h g23
  have o_v1 := gr_ob g23 o_v1
  have o_v2 := gr_ob g23 o_v2
  refine r_pop (pc := 1228) C dL_law_1228 rfl ?_
  refine r_goto (pc := 1229) C (tgt := 2341) dL_law_1229 (by decide) ?_
  exact r_sub [0, 1, 2, 3, 4] rfl (T_L_law_2341 C E ht hn hX23 h)
def P_L_law_1342 (scL : Nat) (scx : Nat → Int32) (Q : Int32 → HS → Prop) (X23 : Nat → Nat → Nat → Int32 → Nat → Nat → HS → Prop) (v1 : Nat) (v2 : Nat) (v3 : Nat) (v4 : Int32) (s0 : Nat) (s1 : Int32) (s2 : Int32) (s3 : Int32) (s4 : Int32) (s5 : Int32) (s6 : Int32) (s7 : Int32) (kk : Nat) (nn : Nat) (S : HS) : Prop := ob S s0 11 ∧ (kk ≤ rm_L_law.cells ∧ nn ≤ rm_L_law.slots ∧ (P_X11_lee s0 s1 s2 s3 s4 s5 s6 s7 (fun x3 S1 => Gr S S1 → (P_L_law_2341 scL scx Q X23 v1 v2 v3 v4 kk nn S1)) S))
set_option maxRecDepth 20000 in
set_option maxHeartbeats 4000000 in
theorem T_L_law_1342 {X : CX} {Q : Int32 → HS → Prop} {scb scL : Nat} {scx : Nat → Int32} (C : Cx X cL_law RL 7 rm_L_law) (E : LE X scb scL scx Q) (ht : LD X) (hn : True) {X23 : Nat → Nat → Nat → Int32 → Nat → Nat → HS → Prop} (hX23 : ∀ (v1 : Nat) (v2 : Nat) (v3 : Nat) (v4 : Int32) (kk : Nat) (nn : Nat) (S : HS), X23 v1 v2 v3 v4 kk nn S → WS X 7 kk nn 23 [(0, .ref scb), (1, .ref v1), (2, .ref v2), (3, .ref v3), (4, .int v4)] [] S) {v1 : Nat} {v2 : Nat} {v3 : Nat} {v4 : Int32} {s0 : Nat} {s1 : Int32} {s2 : Int32} {s3 : Int32} {s4 : Int32} {s5 : Int32} {s6 : Int32} {s7 : Int32} {kk : Nat} {nn : Nat} {S : HS} (h : P_L_law_1342 scL scx Q X23 v1 v2 v3 v4 s0 s1 s2 s3 s4 s5 s6 s7 kk nn S) : WS X 7 kk nn 1342 [(0, .ref scb), (1, .ref v1), (2, .ref v2), (3, .ref v3), (4, .int v4)] [.int s7, .int s6, .int s5, .int s4, .int s3, .int s2, .int s1, .ref s0] S := by
  obtain ⟨o_s0, h⟩ := h
  obtain ⟨hk, hk2, h⟩ := h
  refine r_callVl0 (pc := 1342) C (rest := []) (a := s0) o_s0 [.int s1, .int s2, .int s3, .int s4, .int s5, .int s6, .int s7] yV_X11_lee g_1655 (c_X11_lee h) dL_law_1342 rfl rfl (Nat.le_of_ble_eq_true rfl) ⟨by decide, by decide⟩ ⟨hk, hk2⟩ ⟨rfl, rfl⟩ (fun x3 S1 h g2 => ?_)
  have h := h g2
  have o_s0 := gr_ob g2 o_s0
  refine r_pop2 (pc := 1345) C dL_law_1345 rfl ?_
  refine r_goto (pc := 1346) C (tgt := 2341) dL_law_1346 (by decide) ?_
  exact r_sub [0, 1, 2, 3, 4] rfl (T_L_law_2341 C E ht hn hX23 h)
end
section
def P_L_law_1285 (scL : Nat) (scx : Nat → Int32) (Q : Int32 → HS → Prop) (X23 : Nat → Nat → Nat → Int32 → Nat → Nat → HS → Prop) (v1 : Nat) (v2 : Nat) (v3 : Nat) (v4 : Int32) (s0 : Nat) (s1 : Int32) (s2 : Int32) (s3 : Int32) (s4 : Int32) (s5 : Int32) (s6 : Int32) (s7 : Int32) (kk : Nat) (nn : Nat) (S : HS) : Prop := ob S s0 9 ∧ (kk ≤ rm_L_law.cells ∧ nn ≤ rm_L_law.slots ∧ (P_X9_lee s0 s1 s2 s3 s4 s5 s6 s7 (fun x3 S1 => Gr S S1 → (∀ x4 : Int32, x4 = v4 + (1 : Int32) → (vp_in x4 scL ∧ ∀ x6 : Int32, x6 = scx x4.toNatClampNeg → (∀ x7 : Int32, x7 = v4 + (2 : Int32) → (vp_in x7 scL ∧ ∀ x9 : Int32, x9 = scx x7.toNatClampNeg → (∀ x10 : Int32, x10 = v4 + (3 : Int32) → (vp_in x10 scL ∧ ∀ x12 : Int32, x12 = scx x10.toNatClampNeg → (∀ x13 : Int32, x13 = v4 + (4 : Int32) → (vp_in x13 scL ∧ ∀ x15 : Int32, x15 = scx x13.toNatClampNeg → (∀ x16 : Int32, x16 = v4 + (5 : Int32) → (vp_in x16 scL ∧ ∀ x18 : Int32, x18 = scx x16.toNatClampNeg → (∀ x19 : Int32, x19 = v4 + (6 : Int32) → (vp_in x19 scL ∧ ∀ x21 : Int32, x21 = scx x19.toNatClampNeg → (∀ x22 : Int32, x22 = v4 + (7 : Int32) → (vp_in x22 scL ∧ ∀ x24 : Int32, x24 = scx x22.toNatClampNeg → (((x24 = 0) → (P_L_law_1342 scL scx Q X23 v1 v2 v3 v4 v2 x6 x9 x12 x15 x18 x21 (0 : Int32) kk nn S1)) ∧ ((¬ x24 = 0) → (P_L_law_1342 scL scx Q X23 v1 v2 v3 v4 v2 x6 x9 x12 x15 x18 x21 (1 : Int32) kk nn S1)))))))))))))))))) S))
set_option maxRecDepth 20000 in
set_option maxHeartbeats 4000000 in
theorem T_L_law_1285 {X : CX} {Q : Int32 → HS → Prop} {scb scL : Nat} {scx : Nat → Int32} (C : Cx X cL_law RL 7 rm_L_law) (E : LE X scb scL scx Q) (ht : LD X) (hn : True) {X23 : Nat → Nat → Nat → Int32 → Nat → Nat → HS → Prop} (hX23 : ∀ (v1 : Nat) (v2 : Nat) (v3 : Nat) (v4 : Int32) (kk : Nat) (nn : Nat) (S : HS), X23 v1 v2 v3 v4 kk nn S → WS X 7 kk nn 23 [(0, .ref scb), (1, .ref v1), (2, .ref v2), (3, .ref v3), (4, .int v4)] [] S) {v1 : Nat} {v2 : Nat} {v3 : Nat} {v4 : Int32} {s0 : Nat} {s1 : Int32} {s2 : Int32} {s3 : Int32} {s4 : Int32} {s5 : Int32} {s6 : Int32} {s7 : Int32} {kk : Nat} {nn : Nat} {S : HS} (h : P_L_law_1285 scL scx Q X23 v1 v2 v3 v4 s0 s1 s2 s3 s4 s5 s6 s7 kk nn S) : WS X 7 kk nn 1285 [(0, .ref scb), (1, .ref v1), (2, .ref v2), (3, .ref v3), (4, .int v4)] [.int s7, .int s6, .int s5, .int s4, .int s3, .int s2, .int s1, .ref s0] S := by
  obtain ⟨o_s0, h⟩ := h
  obtain ⟨hk, hk2, h⟩ := h
  refine r_callVl0 (pc := 1285) C (rest := []) (a := s0) o_s0 [.int s1, .int s2, .int s3, .int s4, .int s5, .int s6, .int s7] yV_X9_lee g_797 (c_X9_lee h) dL_law_1285 rfl rfl (Nat.le_of_ble_eq_true rfl) ⟨by decide, by decide⟩ ⟨hk, hk2⟩ ⟨rfl, rfl⟩ (fun x3 S1 h g2 => ?_)
  have h := h g2
  have o_s0 := gr_ob g2 o_s0
  refine r_pop2 (pc := 1288) C dL_law_1288 rfl ?_
  refine r_aload_n (pc := 1289) C dL_law_1289 2 rfl ?_
  refine r_aload_n (pc := 1290) C dL_law_1290 0 rfl ?_
  refine r_iload (pc := 1291) C dL_law_1291 4 rfl ?_
  refine r_iconst (pc := 1293) C (v := (1 : Int32)) dL_law_1293 (by decide) ?_
  refine r_iadd (pc := 1294) C dL_law_1294 ?_
  refine r_topi (fun x4 ex4 => ?_)
  have h := h x4 ex4
  obtain ⟨i5, h⟩ := h
  refine r_scLd (pc := 1295) C E i5 dL_law_1295 ?_
  refine r_topi (fun x6 ex6 => ?_)
  have h := h x6 ex6
  refine r_aload_n (pc := 1296) C dL_law_1296 0 rfl ?_
  refine r_iload (pc := 1297) C dL_law_1297 4 rfl ?_
  refine r_iconst (pc := 1299) C (v := (2 : Int32)) dL_law_1299 (by decide) ?_
  refine r_iadd (pc := 1300) C dL_law_1300 ?_
  refine r_topi (fun x7 ex7 => ?_)
  have h := h x7 ex7
  obtain ⟨i8, h⟩ := h
  refine r_scLd (pc := 1301) C E i8 dL_law_1301 ?_
  refine r_topi (fun x9 ex9 => ?_)
  have h := h x9 ex9
  refine r_aload_n (pc := 1302) C dL_law_1302 0 rfl ?_
  refine r_iload (pc := 1303) C dL_law_1303 4 rfl ?_
  refine r_iconst (pc := 1305) C (v := (3 : Int32)) dL_law_1305 (by decide) ?_
  refine r_iadd (pc := 1306) C dL_law_1306 ?_
  refine r_topi (fun x10 ex10 => ?_)
  have h := h x10 ex10
  obtain ⟨i11, h⟩ := h
  refine r_scLd (pc := 1307) C E i11 dL_law_1307 ?_
  refine r_topi (fun x12 ex12 => ?_)
  have h := h x12 ex12
  refine r_aload_n (pc := 1308) C dL_law_1308 0 rfl ?_
  refine r_iload (pc := 1309) C dL_law_1309 4 rfl ?_
  refine r_iconst (pc := 1311) C (v := (4 : Int32)) dL_law_1311 (by decide) ?_
  refine r_iadd (pc := 1312) C dL_law_1312 ?_
  refine r_topi (fun x13 ex13 => ?_)
  have h := h x13 ex13
  obtain ⟨i14, h⟩ := h
  refine r_scLd (pc := 1313) C E i14 dL_law_1313 ?_
  refine r_topi (fun x15 ex15 => ?_)
  have h := h x15 ex15
  refine r_aload_n (pc := 1314) C dL_law_1314 0 rfl ?_
  refine r_iload (pc := 1315) C dL_law_1315 4 rfl ?_
  refine r_iconst (pc := 1317) C (v := (5 : Int32)) dL_law_1317 (by decide) ?_
  refine r_iadd (pc := 1318) C dL_law_1318 ?_
  refine r_topi (fun x16 ex16 => ?_)
  have h := h x16 ex16
  obtain ⟨i17, h⟩ := h
  refine r_scLd (pc := 1319) C E i17 dL_law_1319 ?_
  refine r_topi (fun x18 ex18 => ?_)
  have h := h x18 ex18
  refine r_aload_n (pc := 1320) C dL_law_1320 0 rfl ?_
  refine r_iload (pc := 1321) C dL_law_1321 4 rfl ?_
  refine r_bipush (pc := 1323) C (v := (6 : Int32)) dL_law_1323 (by decide) ?_
  refine r_iadd (pc := 1325) C dL_law_1325 ?_
  refine r_topi (fun x19 ex19 => ?_)
  have h := h x19 ex19
  obtain ⟨i20, h⟩ := h
  refine r_scLd (pc := 1326) C E i20 dL_law_1326 ?_
  refine r_topi (fun x21 ex21 => ?_)
  have h := h x21 ex21
  refine r_aload_n (pc := 1327) C dL_law_1327 0 rfl ?_
  refine r_iload (pc := 1328) C dL_law_1328 4 rfl ?_
  refine r_bipush (pc := 1330) C (v := (7 : Int32)) dL_law_1330 (by decide) ?_
  refine r_iadd (pc := 1332) C dL_law_1332 ?_
  refine r_topi (fun x22 ex22 => ?_)
  have h := h x22 ex22
  obtain ⟨i23, h⟩ := h
  refine r_scLd (pc := 1333) C E i23 dL_law_1333 ?_
  refine r_topi (fun x24 ex24 => ?_)
  have h := h x24 ex24
  refine r_if_eq (pc := 1334) C (tgt := 1341) dL_law_1334 (by decide) (fun c25 => ?_) (fun c25 => ?_)
  · have h := h.1 c25
    refine r_iconst (pc := 1341) C (v := (0 : Int32)) dL_law_1341 (by decide) ?_
    exact r_sub [0, 1, 2, 3, 4] rfl (T_L_law_1342 C E ht hn hX23 h)
  · have h := h.2 c25
    refine r_iconst (pc := 1337) C (v := (1 : Int32)) dL_law_1337 (by decide) ?_
    refine r_goto (pc := 1338) C (tgt := 1342) dL_law_1338 (by decide) ?_
    exact r_sub [0, 1, 2, 3, 4] rfl (T_L_law_1342 C E ht hn hX23 h)
def P_L_law_1232 (scL : Nat) (scx : Nat → Int32) (Q : Int32 → HS → Prop) (X23 : Nat → Nat → Nat → Int32 → Nat → Nat → HS → Prop) (v1 : Nat) (v2 : Nat) (v3 : Nat) (v4 : Int32) (kk : Nat) (nn : Nat) (S : HS) : Prop := ∀ x1 : Int32, x1 = v4 + (1 : Int32) → (vp_in x1 scL ∧ ∀ x3 : Int32, x3 = scx x1.toNatClampNeg → (∀ x4 : Int32, x4 = v4 + (2 : Int32) → (vp_in x4 scL ∧ ∀ x6 : Int32, x6 = scx x4.toNatClampNeg → (∀ x7 : Int32, x7 = v4 + (3 : Int32) → (vp_in x7 scL ∧ ∀ x9 : Int32, x9 = scx x7.toNatClampNeg → (∀ x10 : Int32, x10 = v4 + (4 : Int32) → (vp_in x10 scL ∧ ∀ x12 : Int32, x12 = scx x10.toNatClampNeg → (∀ x13 : Int32, x13 = v4 + (5 : Int32) → (vp_in x13 scL ∧ ∀ x15 : Int32, x15 = scx x13.toNatClampNeg → (∀ x16 : Int32, x16 = v4 + (6 : Int32) → (vp_in x16 scL ∧ ∀ x18 : Int32, x18 = scx x16.toNatClampNeg → (∀ x19 : Int32, x19 = v4 + (7 : Int32) → (vp_in x19 scL ∧ ∀ x21 : Int32, x21 = scx x19.toNatClampNeg → (((x21 = 0) → (P_L_law_1285 scL scx Q X23 v1 v2 v3 v4 v1 x3 x6 x9 x12 x15 x18 (0 : Int32) kk nn S)) ∧ ((¬ x21 = 0) → (P_L_law_1285 scL scx Q X23 v1 v2 v3 v4 v1 x3 x6 x9 x12 x15 x18 (1 : Int32) kk nn S))))))))))))))))
set_option maxRecDepth 20000 in
set_option maxHeartbeats 4000000 in
theorem T_L_law_1232 {X : CX} {Q : Int32 → HS → Prop} {scb scL : Nat} {scx : Nat → Int32} (C : Cx X cL_law RL 7 rm_L_law) (E : LE X scb scL scx Q) (ht : LD X) (hn : True) {X23 : Nat → Nat → Nat → Int32 → Nat → Nat → HS → Prop} (hX23 : ∀ (v1 : Nat) (v2 : Nat) (v3 : Nat) (v4 : Int32) (kk : Nat) (nn : Nat) (S : HS), X23 v1 v2 v3 v4 kk nn S → WS X 7 kk nn 23 [(0, .ref scb), (1, .ref v1), (2, .ref v2), (3, .ref v3), (4, .int v4)] [] S) {v1 : Nat} {v2 : Nat} {v3 : Nat} {v4 : Int32} {kk : Nat} {nn : Nat} {S : HS} (h : P_L_law_1232 scL scx Q X23 v1 v2 v3 v4 kk nn S) : WS X 7 kk nn 1232 [(0, .ref scb), (1, .ref v1), (2, .ref v2), (3, .ref v3), (4, .int v4)] [] S := by
  refine r_aload_n (pc := 1232) C dL_law_1232 1 rfl ?_
  refine r_aload_n (pc := 1233) C dL_law_1233 0 rfl ?_
  refine r_iload (pc := 1234) C dL_law_1234 4 rfl ?_
  refine r_iconst (pc := 1236) C (v := (1 : Int32)) dL_law_1236 (by decide) ?_
  refine r_iadd (pc := 1237) C dL_law_1237 ?_
  refine r_topi (fun x1 ex1 => ?_)
  have h := h x1 ex1
  obtain ⟨i2, h⟩ := h
  refine r_scLd (pc := 1238) C E i2 dL_law_1238 ?_
  refine r_topi (fun x3 ex3 => ?_)
  have h := h x3 ex3
  refine r_aload_n (pc := 1239) C dL_law_1239 0 rfl ?_
  refine r_iload (pc := 1240) C dL_law_1240 4 rfl ?_
  refine r_iconst (pc := 1242) C (v := (2 : Int32)) dL_law_1242 (by decide) ?_
  refine r_iadd (pc := 1243) C dL_law_1243 ?_
  refine r_topi (fun x4 ex4 => ?_)
  have h := h x4 ex4
  obtain ⟨i5, h⟩ := h
  refine r_scLd (pc := 1244) C E i5 dL_law_1244 ?_
  refine r_topi (fun x6 ex6 => ?_)
  have h := h x6 ex6
  refine r_aload_n (pc := 1245) C dL_law_1245 0 rfl ?_
  refine r_iload (pc := 1246) C dL_law_1246 4 rfl ?_
  refine r_iconst (pc := 1248) C (v := (3 : Int32)) dL_law_1248 (by decide) ?_
  refine r_iadd (pc := 1249) C dL_law_1249 ?_
  refine r_topi (fun x7 ex7 => ?_)
  have h := h x7 ex7
  obtain ⟨i8, h⟩ := h
  refine r_scLd (pc := 1250) C E i8 dL_law_1250 ?_
  refine r_topi (fun x9 ex9 => ?_)
  have h := h x9 ex9
  refine r_aload_n (pc := 1251) C dL_law_1251 0 rfl ?_
  refine r_iload (pc := 1252) C dL_law_1252 4 rfl ?_
  refine r_iconst (pc := 1254) C (v := (4 : Int32)) dL_law_1254 (by decide) ?_
  refine r_iadd (pc := 1255) C dL_law_1255 ?_
  refine r_topi (fun x10 ex10 => ?_)
  have h := h x10 ex10
  obtain ⟨i11, h⟩ := h
  refine r_scLd (pc := 1256) C E i11 dL_law_1256 ?_
  refine r_topi (fun x12 ex12 => ?_)
  have h := h x12 ex12
  refine r_aload_n (pc := 1257) C dL_law_1257 0 rfl ?_
  refine r_iload (pc := 1258) C dL_law_1258 4 rfl ?_
  refine r_iconst (pc := 1260) C (v := (5 : Int32)) dL_law_1260 (by decide) ?_
  refine r_iadd (pc := 1261) C dL_law_1261 ?_
  refine r_topi (fun x13 ex13 => ?_)
  have h := h x13 ex13
  obtain ⟨i14, h⟩ := h
  refine r_scLd (pc := 1262) C E i14 dL_law_1262 ?_
  refine r_topi (fun x15 ex15 => ?_)
  have h := h x15 ex15
  refine r_aload_n (pc := 1263) C dL_law_1263 0 rfl ?_
  refine r_iload (pc := 1264) C dL_law_1264 4 rfl ?_
  refine r_bipush (pc := 1266) C (v := (6 : Int32)) dL_law_1266 (by decide) ?_
  refine r_iadd (pc := 1268) C dL_law_1268 ?_
  refine r_topi (fun x16 ex16 => ?_)
  have h := h x16 ex16
  obtain ⟨i17, h⟩ := h
  refine r_scLd (pc := 1269) C E i17 dL_law_1269 ?_
  refine r_topi (fun x18 ex18 => ?_)
  have h := h x18 ex18
  refine r_aload_n (pc := 1270) C dL_law_1270 0 rfl ?_
  refine r_iload (pc := 1271) C dL_law_1271 4 rfl ?_
  refine r_bipush (pc := 1273) C (v := (7 : Int32)) dL_law_1273 (by decide) ?_
  refine r_iadd (pc := 1275) C dL_law_1275 ?_
  refine r_topi (fun x19 ex19 => ?_)
  have h := h x19 ex19
  obtain ⟨i20, h⟩ := h
  refine r_scLd (pc := 1276) C E i20 dL_law_1276 ?_
  refine r_topi (fun x21 ex21 => ?_)
  have h := h x21 ex21
  refine r_if_eq (pc := 1277) C (tgt := 1284) dL_law_1277 (by decide) (fun c22 => ?_) (fun c22 => ?_)
  · have h := h.1 c22
    refine r_iconst (pc := 1284) C (v := (0 : Int32)) dL_law_1284 (by decide) ?_
    exact r_sub [0, 1, 2, 3, 4] rfl (T_L_law_1285 C E ht hn hX23 h)
  · have h := h.2 c22
    refine r_iconst (pc := 1280) C (v := (1 : Int32)) dL_law_1280 (by decide) ?_
    refine r_goto (pc := 1281) C (tgt := 1285) dL_law_1281 (by decide) ?_
    exact r_sub [0, 1, 2, 3, 4] rfl (T_L_law_1285 C E ht hn hX23 h)
def P_L_law_1349 (scL : Nat) (scx : Nat → Int32) (Q : Int32 → HS → Prop) (X23 : Nat → Nat → Nat → Int32 → Nat → Nat → HS → Prop) (v1 : Nat) (v2 : Nat) (v3 : Nat) (v4 : Int32) (kk : Nat) (nn : Nat) (S : HS) : Prop := ∀ x1 : Int32, x1 = v4 + (1 : Int32) → (vp_in x1 scL ∧ ∀ x3 : Int32, x3 = scx x1.toNatClampNeg → (∀ x4 : Int32, x4 = v4 + (2 : Int32) → (vp_in x4 scL ∧ ∀ x6 : Int32, x6 = scx x4.toNatClampNeg → (∀ x7 : Int32, x7 = v4 + (3 : Int32) → (vp_in x7 scL ∧ ∀ x9 : Int32, x9 = scx x7.toNatClampNeg → (∀ x10 : Int32, x10 = v4 + (4 : Int32) → (vp_in x10 scL ∧ ∀ x12 : Int32, x12 = scx x10.toNatClampNeg → (∀ x13 : Int32, x13 = v4 + (5 : Int32) → (vp_in x13 scL ∧ ∀ x15 : Int32, x15 = scx x13.toNatClampNeg → (∀ x16 : Int32, x16 = v4 + (6 : Int32) → (vp_in x16 scL ∧ ∀ x18 : Int32, x18 = scx x16.toNatClampNeg → (ob S v1 9 ∧ (kk ≤ rm_L_law.cells ∧ nn ≤ rm_L_law.slots ∧ (P_X9_first v1 x3 x6 x9 x12 x15 x18 (fun x21 S19 => Gr S S19 → (∀ x22 : Int32, x22 = v4 + (1 : Int32) → (vp_in x22 scL ∧ ∀ x24 : Int32, x24 = scx x22.toNatClampNeg → (∀ x25 : Int32, x25 = v4 + (2 : Int32) → (vp_in x25 scL ∧ ∀ x27 : Int32, x27 = scx x25.toNatClampNeg → (∀ x28 : Int32, x28 = v4 + (3 : Int32) → (vp_in x28 scL ∧ ∀ x30 : Int32, x30 = scx x28.toNatClampNeg → (∀ x31 : Int32, x31 = v4 + (4 : Int32) → (vp_in x31 scL ∧ ∀ x33 : Int32, x33 = scx x31.toNatClampNeg → (∀ x34 : Int32, x34 = v4 + (5 : Int32) → (vp_in x34 scL ∧ ∀ x36 : Int32, x36 = scx x34.toNatClampNeg → (∀ x37 : Int32, x37 = v4 + (6 : Int32) → (vp_in x37 scL ∧ ∀ x39 : Int32, x39 = scx x37.toNatClampNeg → (ob S19 v2 11 ∧ (kk ≤ rm_L_law.cells ∧ nn ≤ rm_L_law.slots ∧ (P_X11_first v2 x24 x27 x30 x33 x36 x39 (fun x42 S40 => Gr S19 S40 → (P_L_law_2341 scL scx Q X23 v1 v2 v3 v4 kk nn S40)) S19)))))))))))))))) S))))))))))))))
set_option maxRecDepth 20000 in
set_option maxHeartbeats 4000000 in
theorem T_L_law_1349 {X : CX} {Q : Int32 → HS → Prop} {scb scL : Nat} {scx : Nat → Int32} (C : Cx X cL_law RL 7 rm_L_law) (E : LE X scb scL scx Q) (ht : LD X) (hn : True) {X23 : Nat → Nat → Nat → Int32 → Nat → Nat → HS → Prop} (hX23 : ∀ (v1 : Nat) (v2 : Nat) (v3 : Nat) (v4 : Int32) (kk : Nat) (nn : Nat) (S : HS), X23 v1 v2 v3 v4 kk nn S → WS X 7 kk nn 23 [(0, .ref scb), (1, .ref v1), (2, .ref v2), (3, .ref v3), (4, .int v4)] [] S) {v1 : Nat} {v2 : Nat} {v3 : Nat} {v4 : Int32} {kk : Nat} {nn : Nat} {S : HS} (h : P_L_law_1349 scL scx Q X23 v1 v2 v3 v4 kk nn S) : WS X 7 kk nn 1349 [(0, .ref scb), (1, .ref v1), (2, .ref v2), (3, .ref v3), (4, .int v4)] [] S := by
  refine r_aload_n (pc := 1349) C dL_law_1349 1 rfl ?_
  refine r_aload_n (pc := 1350) C dL_law_1350 0 rfl ?_
  refine r_iload (pc := 1351) C dL_law_1351 4 rfl ?_
  refine r_iconst (pc := 1353) C (v := (1 : Int32)) dL_law_1353 (by decide) ?_
  refine r_iadd (pc := 1354) C dL_law_1354 ?_
  refine r_topi (fun x1 ex1 => ?_)
  have h := h x1 ex1
  obtain ⟨i2, h⟩ := h
  refine r_scLd (pc := 1355) C E i2 dL_law_1355 ?_
  refine r_topi (fun x3 ex3 => ?_)
  have h := h x3 ex3
  refine r_aload_n (pc := 1356) C dL_law_1356 0 rfl ?_
  refine r_iload (pc := 1357) C dL_law_1357 4 rfl ?_
  refine r_iconst (pc := 1359) C (v := (2 : Int32)) dL_law_1359 (by decide) ?_
  refine r_iadd (pc := 1360) C dL_law_1360 ?_
  refine r_topi (fun x4 ex4 => ?_)
  have h := h x4 ex4
  obtain ⟨i5, h⟩ := h
  refine r_scLd (pc := 1361) C E i5 dL_law_1361 ?_
  refine r_topi (fun x6 ex6 => ?_)
  have h := h x6 ex6
  refine r_aload_n (pc := 1362) C dL_law_1362 0 rfl ?_
  refine r_iload (pc := 1363) C dL_law_1363 4 rfl ?_
  refine r_iconst (pc := 1365) C (v := (3 : Int32)) dL_law_1365 (by decide) ?_
  refine r_iadd (pc := 1366) C dL_law_1366 ?_
  refine r_topi (fun x7 ex7 => ?_)
  have h := h x7 ex7
  obtain ⟨i8, h⟩ := h
  refine r_scLd (pc := 1367) C E i8 dL_law_1367 ?_
  refine r_topi (fun x9 ex9 => ?_)
  have h := h x9 ex9
  refine r_aload_n (pc := 1368) C dL_law_1368 0 rfl ?_
  refine r_iload (pc := 1369) C dL_law_1369 4 rfl ?_
  refine r_iconst (pc := 1371) C (v := (4 : Int32)) dL_law_1371 (by decide) ?_
  refine r_iadd (pc := 1372) C dL_law_1372 ?_
  refine r_topi (fun x10 ex10 => ?_)
  have h := h x10 ex10
  obtain ⟨i11, h⟩ := h
  refine r_scLd (pc := 1373) C E i11 dL_law_1373 ?_
  refine r_topi (fun x12 ex12 => ?_)
  have h := h x12 ex12
  refine r_aload_n (pc := 1374) C dL_law_1374 0 rfl ?_
  refine r_iload (pc := 1375) C dL_law_1375 4 rfl ?_
  refine r_iconst (pc := 1377) C (v := (5 : Int32)) dL_law_1377 (by decide) ?_
  refine r_iadd (pc := 1378) C dL_law_1378 ?_
  refine r_topi (fun x13 ex13 => ?_)
  have h := h x13 ex13
  obtain ⟨i14, h⟩ := h
  refine r_scLd (pc := 1379) C E i14 dL_law_1379 ?_
  refine r_topi (fun x15 ex15 => ?_)
  have h := h x15 ex15
  refine r_aload_n (pc := 1380) C dL_law_1380 0 rfl ?_
  refine r_iload (pc := 1381) C dL_law_1381 4 rfl ?_
  refine r_bipush (pc := 1383) C (v := (6 : Int32)) dL_law_1383 (by decide) ?_
  refine r_iadd (pc := 1385) C dL_law_1385 ?_
  refine r_topi (fun x16 ex16 => ?_)
  have h := h x16 ex16
  obtain ⟨i17, h⟩ := h
  refine r_scLd (pc := 1386) C E i17 dL_law_1386 ?_
  refine r_topi (fun x18 ex18 => ?_)
  have h := h x18 ex18
  obtain ⟨o_v1, h⟩ := h
  obtain ⟨hk, hk2, h⟩ := h
  refine r_callVi0 (pc := 1387) C (rest := []) (a := v1) o_v1 [.int x3, .int x6, .int x9, .int x12, .int x15, .int x18] yV_X9_first g_809 (c_X9_first h) dL_law_1387 rfl rfl (Nat.le_of_ble_eq_true rfl) ⟨by decide, by decide⟩ ⟨hk, hk2⟩ ⟨rfl, rfl⟩ (fun x21 S19 h g20 => ?_)
  have h := h g20
  have o_v1 := gr_ob g20 o_v1
  refine r_pop (pc := 1390) C dL_law_1390 rfl ?_
  refine r_aload_n (pc := 1391) C dL_law_1391 2 rfl ?_
  refine r_aload_n (pc := 1392) C dL_law_1392 0 rfl ?_
  refine r_iload (pc := 1393) C dL_law_1393 4 rfl ?_
  refine r_iconst (pc := 1395) C (v := (1 : Int32)) dL_law_1395 (by decide) ?_
  refine r_iadd (pc := 1396) C dL_law_1396 ?_
  refine r_topi (fun x22 ex22 => ?_)
  have h := h x22 ex22
  obtain ⟨i23, h⟩ := h
  refine r_scLd (pc := 1397) C E i23 dL_law_1397 ?_
  refine r_topi (fun x24 ex24 => ?_)
  have h := h x24 ex24
  refine r_aload_n (pc := 1398) C dL_law_1398 0 rfl ?_
  refine r_iload (pc := 1399) C dL_law_1399 4 rfl ?_
  refine r_iconst (pc := 1401) C (v := (2 : Int32)) dL_law_1401 (by decide) ?_
  refine r_iadd (pc := 1402) C dL_law_1402 ?_
  refine r_topi (fun x25 ex25 => ?_)
  have h := h x25 ex25
  obtain ⟨i26, h⟩ := h
  refine r_scLd (pc := 1403) C E i26 dL_law_1403 ?_
  refine r_topi (fun x27 ex27 => ?_)
  have h := h x27 ex27
  refine r_aload_n (pc := 1404) C dL_law_1404 0 rfl ?_
  refine r_iload (pc := 1405) C dL_law_1405 4 rfl ?_
  refine r_iconst (pc := 1407) C (v := (3 : Int32)) dL_law_1407 (by decide) ?_
  refine r_iadd (pc := 1408) C dL_law_1408 ?_
  refine r_topi (fun x28 ex28 => ?_)
  have h := h x28 ex28
  obtain ⟨i29, h⟩ := h
  refine r_scLd (pc := 1409) C E i29 dL_law_1409 ?_
  refine r_topi (fun x30 ex30 => ?_)
  have h := h x30 ex30
  refine r_aload_n (pc := 1410) C dL_law_1410 0 rfl ?_
  refine r_iload (pc := 1411) C dL_law_1411 4 rfl ?_
  refine r_iconst (pc := 1413) C (v := (4 : Int32)) dL_law_1413 (by decide) ?_
  refine r_iadd (pc := 1414) C dL_law_1414 ?_
  refine r_topi (fun x31 ex31 => ?_)
  have h := h x31 ex31
  obtain ⟨i32, h⟩ := h
  refine r_scLd (pc := 1415) C E i32 dL_law_1415 ?_
  refine r_topi (fun x33 ex33 => ?_)
  have h := h x33 ex33
  refine r_aload_n (pc := 1416) C dL_law_1416 0 rfl ?_
  refine r_iload (pc := 1417) C dL_law_1417 4 rfl ?_
  refine r_iconst (pc := 1419) C (v := (5 : Int32)) dL_law_1419 (by decide) ?_
  refine r_iadd (pc := 1420) C dL_law_1420 ?_
  refine r_topi (fun x34 ex34 => ?_)
  have h := h x34 ex34
  obtain ⟨i35, h⟩ := h
  refine r_scLd (pc := 1421) C E i35 dL_law_1421 ?_
  refine r_topi (fun x36 ex36 => ?_)
  have h := h x36 ex36
  refine r_aload_n (pc := 1422) C dL_law_1422 0 rfl ?_
  refine r_iload (pc := 1423) C dL_law_1423 4 rfl ?_
  refine r_bipush (pc := 1425) C (v := (6 : Int32)) dL_law_1425 (by decide) ?_
  refine r_iadd (pc := 1427) C dL_law_1427 ?_
  refine r_topi (fun x37 ex37 => ?_)
  have h := h x37 ex37
  obtain ⟨i38, h⟩ := h
  refine r_scLd (pc := 1428) C E i38 dL_law_1428 ?_
  refine r_topi (fun x39 ex39 => ?_)
  have h := h x39 ex39
  obtain ⟨o_v2, h⟩ := h
  obtain ⟨hk, hk2, h⟩ := h
  refine r_callVi0 (pc := 1429) C (rest := []) (a := v2) o_v2 [.int x24, .int x27, .int x30, .int x33, .int x36, .int x39] yV_X11_first g_1667 (c_X11_first h) dL_law_1429 rfl rfl (Nat.le_of_ble_eq_true rfl) ⟨by decide, by decide⟩ ⟨hk, hk2⟩ ⟨rfl, rfl⟩ (fun x42 S40 h g41 => ?_)
  have h := h g41
  have o_v1 := gr_ob g41 o_v1
  have o_v2 := gr_ob g41 o_v2
  refine r_pop (pc := 1432) C dL_law_1432 rfl ?_
  refine r_goto (pc := 1433) C (tgt := 2341) dL_law_1433 (by decide) ?_
  exact r_sub [0, 1, 2, 3, 4] rfl (T_L_law_2341 C E ht hn hX23 h)
def P_L_law_1532 (scL : Nat) (scx : Nat → Int32) (Q : Int32 → HS → Prop) (X23 : Nat → Nat → Nat → Int32 → Nat → Nat → HS → Prop) (v1 : Nat) (v2 : Nat) (v3 : Nat) (v4 : Int32) (s0 : Nat) (s1 : Int32) (s2 : Int32) (s3 : Int32) (s4 : Int32) (s5 : Int32) (s6 : Int32) (kk : Nat) (nn : Nat) (S : HS) : Prop := ob S s0 11 ∧ (kk ≤ rm_L_law.cells ∧ nn ≤ rm_L_law.slots ∧ (P_X11_least s0 s1 s2 s3 s4 s5 s6 (fun x3 S1 => Gr S S1 → (P_L_law_2341 scL scx Q X23 v1 v2 v3 v4 kk nn S1)) S))
set_option maxRecDepth 20000 in
set_option maxHeartbeats 4000000 in
theorem T_L_law_1532 {X : CX} {Q : Int32 → HS → Prop} {scb scL : Nat} {scx : Nat → Int32} (C : Cx X cL_law RL 7 rm_L_law) (E : LE X scb scL scx Q) (ht : LD X) (hn : True) {X23 : Nat → Nat → Nat → Int32 → Nat → Nat → HS → Prop} (hX23 : ∀ (v1 : Nat) (v2 : Nat) (v3 : Nat) (v4 : Int32) (kk : Nat) (nn : Nat) (S : HS), X23 v1 v2 v3 v4 kk nn S → WS X 7 kk nn 23 [(0, .ref scb), (1, .ref v1), (2, .ref v2), (3, .ref v3), (4, .int v4)] [] S) {v1 : Nat} {v2 : Nat} {v3 : Nat} {v4 : Int32} {s0 : Nat} {s1 : Int32} {s2 : Int32} {s3 : Int32} {s4 : Int32} {s5 : Int32} {s6 : Int32} {kk : Nat} {nn : Nat} {S : HS} (h : P_L_law_1532 scL scx Q X23 v1 v2 v3 v4 s0 s1 s2 s3 s4 s5 s6 kk nn S) : WS X 7 kk nn 1532 [(0, .ref scb), (1, .ref v1), (2, .ref v2), (3, .ref v3), (4, .int v4)] [.int s6, .int s5, .int s4, .int s3, .int s2, .int s1, .ref s0] S := by
  obtain ⟨o_s0, h⟩ := h
  obtain ⟨hk, hk2, h⟩ := h
  refine r_callVl0 (pc := 1532) C (rest := []) (a := s0) o_s0 [.int s1, .int s2, .int s3, .int s4, .int s5, .int s6] yV_X11_least g_1671 (c_X11_least h) dL_law_1532 rfl rfl (Nat.le_of_ble_eq_true rfl) ⟨by decide, by decide⟩ ⟨hk, hk2⟩ ⟨rfl, rfl⟩ (fun x3 S1 h g2 => ?_)
  have h := h g2
  have o_s0 := gr_ob g2 o_s0
  refine r_pop2 (pc := 1535) C dL_law_1535 rfl ?_
  refine r_goto (pc := 1536) C (tgt := 2341) dL_law_1536 (by decide) ?_
  exact r_sub [0, 1, 2, 3, 4] rfl (T_L_law_2341 C E ht hn hX23 h)
def P_L_law_1482 (scL : Nat) (scx : Nat → Int32) (Q : Int32 → HS → Prop) (X23 : Nat → Nat → Nat → Int32 → Nat → Nat → HS → Prop) (v1 : Nat) (v2 : Nat) (v3 : Nat) (v4 : Int32) (s0 : Nat) (s1 : Int32) (s2 : Int32) (s3 : Int32) (s4 : Int32) (s5 : Int32) (s6 : Int32) (kk : Nat) (nn : Nat) (S : HS) : Prop := ob S s0 9 ∧ (kk + 8 ≤ rm_L_law.cells ∧ nn + 7937 ≤ rm_L_law.slots ∧ (P_X9_least s0 s1 s2 s3 s4 s5 s6 (fun x3 S1 => Gr S S1 → (∀ x4 : Int32, x4 = v4 + (1 : Int32) → (vp_in x4 scL ∧ ∀ x6 : Int32, x6 = scx x4.toNatClampNeg → (∀ x7 : Int32, x7 = v4 + (2 : Int32) → (vp_in x7 scL ∧ ∀ x9 : Int32, x9 = scx x7.toNatClampNeg → (∀ x10 : Int32, x10 = v4 + (3 : Int32) → (vp_in x10 scL ∧ ∀ x12 : Int32, x12 = scx x10.toNatClampNeg → (∀ x13 : Int32, x13 = v4 + (4 : Int32) → (vp_in x13 scL ∧ ∀ x15 : Int32, x15 = scx x13.toNatClampNeg → (∀ x16 : Int32, x16 = v4 + (5 : Int32) → (vp_in x16 scL ∧ ∀ x18 : Int32, x18 = scx x16.toNatClampNeg → (∀ x19 : Int32, x19 = v4 + (6 : Int32) → (vp_in x19 scL ∧ ∀ x21 : Int32, x21 = scx x19.toNatClampNeg → (((x21 = 0) → (P_L_law_1532 scL scx Q X23 v1 v2 v3 v4 v2 x6 x9 x12 x15 x18 (0 : Int32) (kk + 8) (nn + 7937) S1)) ∧ ((¬ x21 = 0) → (P_L_law_1532 scL scx Q X23 v1 v2 v3 v4 v2 x6 x9 x12 x15 x18 (1 : Int32) (kk + 8) (nn + 7937) S1)))))))))))))))) S))
set_option maxRecDepth 20000 in
set_option maxHeartbeats 4000000 in
theorem T_L_law_1482 {X : CX} {Q : Int32 → HS → Prop} {scb scL : Nat} {scx : Nat → Int32} (C : Cx X cL_law RL 7 rm_L_law) (E : LE X scb scL scx Q) (ht : LD X) (hn : True) {X23 : Nat → Nat → Nat → Int32 → Nat → Nat → HS → Prop} (hX23 : ∀ (v1 : Nat) (v2 : Nat) (v3 : Nat) (v4 : Int32) (kk : Nat) (nn : Nat) (S : HS), X23 v1 v2 v3 v4 kk nn S → WS X 7 kk nn 23 [(0, .ref scb), (1, .ref v1), (2, .ref v2), (3, .ref v3), (4, .int v4)] [] S) {v1 : Nat} {v2 : Nat} {v3 : Nat} {v4 : Int32} {s0 : Nat} {s1 : Int32} {s2 : Int32} {s3 : Int32} {s4 : Int32} {s5 : Int32} {s6 : Int32} {kk : Nat} {nn : Nat} {S : HS} (h : P_L_law_1482 scL scx Q X23 v1 v2 v3 v4 s0 s1 s2 s3 s4 s5 s6 kk nn S) : WS X 7 kk nn 1482 [(0, .ref scb), (1, .ref v1), (2, .ref v2), (3, .ref v3), (4, .int v4)] [.int s6, .int s5, .int s4, .int s3, .int s2, .int s1, .ref s0] S := by
  obtain ⟨o_s0, h⟩ := h
  obtain ⟨hk, hk2, h⟩ := h
  refine r_callVl (pc := 1482) C (rest := []) (a := s0) o_s0 [.int s1, .int s2, .int s3, .int s4, .int s5, .int s6] yV_X9_least g_813 (c_X9_least h) dL_law_1482 rfl rfl (Nat.le_of_ble_eq_true rfl) ⟨by decide, by decide⟩ ⟨hk, hk2⟩ (fun x3 S1 h g2 => ?_)
  have h := h g2
  have o_s0 := gr_ob g2 o_s0
  refine r_pop2 (pc := 1485) C dL_law_1485 rfl ?_
  refine r_aload_n (pc := 1486) C dL_law_1486 2 rfl ?_
  refine r_aload_n (pc := 1487) C dL_law_1487 0 rfl ?_
  refine r_iload (pc := 1488) C dL_law_1488 4 rfl ?_
  refine r_iconst (pc := 1490) C (v := (1 : Int32)) dL_law_1490 (by decide) ?_
  refine r_iadd (pc := 1491) C dL_law_1491 ?_
  refine r_topi (fun x4 ex4 => ?_)
  have h := h x4 ex4
  obtain ⟨i5, h⟩ := h
  refine r_scLd (pc := 1492) C E i5 dL_law_1492 ?_
  refine r_topi (fun x6 ex6 => ?_)
  have h := h x6 ex6
  refine r_aload_n (pc := 1493) C dL_law_1493 0 rfl ?_
  refine r_iload (pc := 1494) C dL_law_1494 4 rfl ?_
  refine r_iconst (pc := 1496) C (v := (2 : Int32)) dL_law_1496 (by decide) ?_
  refine r_iadd (pc := 1497) C dL_law_1497 ?_
  refine r_topi (fun x7 ex7 => ?_)
  have h := h x7 ex7
  obtain ⟨i8, h⟩ := h
  refine r_scLd (pc := 1498) C E i8 dL_law_1498 ?_
  refine r_topi (fun x9 ex9 => ?_)
  have h := h x9 ex9
  refine r_aload_n (pc := 1499) C dL_law_1499 0 rfl ?_
  refine r_iload (pc := 1500) C dL_law_1500 4 rfl ?_
  refine r_iconst (pc := 1502) C (v := (3 : Int32)) dL_law_1502 (by decide) ?_
  refine r_iadd (pc := 1503) C dL_law_1503 ?_
  refine r_topi (fun x10 ex10 => ?_)
  have h := h x10 ex10
  obtain ⟨i11, h⟩ := h
  refine r_scLd (pc := 1504) C E i11 dL_law_1504 ?_
  refine r_topi (fun x12 ex12 => ?_)
  have h := h x12 ex12
  refine r_aload_n (pc := 1505) C dL_law_1505 0 rfl ?_
  refine r_iload (pc := 1506) C dL_law_1506 4 rfl ?_
  refine r_iconst (pc := 1508) C (v := (4 : Int32)) dL_law_1508 (by decide) ?_
  refine r_iadd (pc := 1509) C dL_law_1509 ?_
  refine r_topi (fun x13 ex13 => ?_)
  have h := h x13 ex13
  obtain ⟨i14, h⟩ := h
  refine r_scLd (pc := 1510) C E i14 dL_law_1510 ?_
  refine r_topi (fun x15 ex15 => ?_)
  have h := h x15 ex15
  refine r_aload_n (pc := 1511) C dL_law_1511 0 rfl ?_
  refine r_iload (pc := 1512) C dL_law_1512 4 rfl ?_
  refine r_iconst (pc := 1514) C (v := (5 : Int32)) dL_law_1514 (by decide) ?_
  refine r_iadd (pc := 1515) C dL_law_1515 ?_
  refine r_topi (fun x16 ex16 => ?_)
  have h := h x16 ex16
  obtain ⟨i17, h⟩ := h
  refine r_scLd (pc := 1516) C E i17 dL_law_1516 ?_
  refine r_topi (fun x18 ex18 => ?_)
  have h := h x18 ex18
  refine r_aload_n (pc := 1517) C dL_law_1517 0 rfl ?_
  refine r_iload (pc := 1518) C dL_law_1518 4 rfl ?_
  refine r_bipush (pc := 1520) C (v := (6 : Int32)) dL_law_1520 (by decide) ?_
  refine r_iadd (pc := 1522) C dL_law_1522 ?_
  refine r_topi (fun x19 ex19 => ?_)
  have h := h x19 ex19
  obtain ⟨i20, h⟩ := h
  refine r_scLd (pc := 1523) C E i20 dL_law_1523 ?_
  refine r_topi (fun x21 ex21 => ?_)
  have h := h x21 ex21
  refine r_if_eq (pc := 1524) C (tgt := 1531) dL_law_1524 (by decide) (fun c22 => ?_) (fun c22 => ?_)
  · have h := h.1 c22
    refine r_iconst (pc := 1531) C (v := (0 : Int32)) dL_law_1531 (by decide) ?_
    exact r_sub [0, 1, 2, 3, 4] rfl (T_L_law_1532 C E ht hn hX23 h)
  · have h := h.2 c22
    refine r_iconst (pc := 1527) C (v := (1 : Int32)) dL_law_1527 (by decide) ?_
    refine r_goto (pc := 1528) C (tgt := 1532) dL_law_1528 (by decide) ?_
    exact r_sub [0, 1, 2, 3, 4] rfl (T_L_law_1532 C E ht hn hX23 h)
def P_L_law_1436 (scL : Nat) (scx : Nat → Int32) (Q : Int32 → HS → Prop) (X23 : Nat → Nat → Nat → Int32 → Nat → Nat → HS → Prop) (v1 : Nat) (v2 : Nat) (v3 : Nat) (v4 : Int32) (kk : Nat) (nn : Nat) (S : HS) : Prop := ∀ x1 : Int32, x1 = v4 + (1 : Int32) → (vp_in x1 scL ∧ ∀ x3 : Int32, x3 = scx x1.toNatClampNeg → (∀ x4 : Int32, x4 = v4 + (2 : Int32) → (vp_in x4 scL ∧ ∀ x6 : Int32, x6 = scx x4.toNatClampNeg → (∀ x7 : Int32, x7 = v4 + (3 : Int32) → (vp_in x7 scL ∧ ∀ x9 : Int32, x9 = scx x7.toNatClampNeg → (∀ x10 : Int32, x10 = v4 + (4 : Int32) → (vp_in x10 scL ∧ ∀ x12 : Int32, x12 = scx x10.toNatClampNeg → (∀ x13 : Int32, x13 = v4 + (5 : Int32) → (vp_in x13 scL ∧ ∀ x15 : Int32, x15 = scx x13.toNatClampNeg → (∀ x16 : Int32, x16 = v4 + (6 : Int32) → (vp_in x16 scL ∧ ∀ x18 : Int32, x18 = scx x16.toNatClampNeg → (((x18 = 0) → (P_L_law_1482 scL scx Q X23 v1 v2 v3 v4 v1 x3 x6 x9 x12 x15 (0 : Int32) kk nn S)) ∧ ((¬ x18 = 0) → (P_L_law_1482 scL scx Q X23 v1 v2 v3 v4 v1 x3 x6 x9 x12 x15 (1 : Int32) kk nn S))))))))))))))
set_option maxRecDepth 20000 in
set_option maxHeartbeats 4000000 in
theorem T_L_law_1436 {X : CX} {Q : Int32 → HS → Prop} {scb scL : Nat} {scx : Nat → Int32} (C : Cx X cL_law RL 7 rm_L_law) (E : LE X scb scL scx Q) (ht : LD X) (hn : True) {X23 : Nat → Nat → Nat → Int32 → Nat → Nat → HS → Prop} (hX23 : ∀ (v1 : Nat) (v2 : Nat) (v3 : Nat) (v4 : Int32) (kk : Nat) (nn : Nat) (S : HS), X23 v1 v2 v3 v4 kk nn S → WS X 7 kk nn 23 [(0, .ref scb), (1, .ref v1), (2, .ref v2), (3, .ref v3), (4, .int v4)] [] S) {v1 : Nat} {v2 : Nat} {v3 : Nat} {v4 : Int32} {kk : Nat} {nn : Nat} {S : HS} (h : P_L_law_1436 scL scx Q X23 v1 v2 v3 v4 kk nn S) : WS X 7 kk nn 1436 [(0, .ref scb), (1, .ref v1), (2, .ref v2), (3, .ref v3), (4, .int v4)] [] S := by
  refine r_aload_n (pc := 1436) C dL_law_1436 1 rfl ?_
  refine r_aload_n (pc := 1437) C dL_law_1437 0 rfl ?_
  refine r_iload (pc := 1438) C dL_law_1438 4 rfl ?_
  refine r_iconst (pc := 1440) C (v := (1 : Int32)) dL_law_1440 (by decide) ?_
  refine r_iadd (pc := 1441) C dL_law_1441 ?_
  refine r_topi (fun x1 ex1 => ?_)
  have h := h x1 ex1
  obtain ⟨i2, h⟩ := h
  refine r_scLd (pc := 1442) C E i2 dL_law_1442 ?_
  refine r_topi (fun x3 ex3 => ?_)
  have h := h x3 ex3
  refine r_aload_n (pc := 1443) C dL_law_1443 0 rfl ?_
  refine r_iload (pc := 1444) C dL_law_1444 4 rfl ?_
  refine r_iconst (pc := 1446) C (v := (2 : Int32)) dL_law_1446 (by decide) ?_
  refine r_iadd (pc := 1447) C dL_law_1447 ?_
  refine r_topi (fun x4 ex4 => ?_)
  have h := h x4 ex4
  obtain ⟨i5, h⟩ := h
  refine r_scLd (pc := 1448) C E i5 dL_law_1448 ?_
  refine r_topi (fun x6 ex6 => ?_)
  have h := h x6 ex6
  refine r_aload_n (pc := 1449) C dL_law_1449 0 rfl ?_
  refine r_iload (pc := 1450) C dL_law_1450 4 rfl ?_
  refine r_iconst (pc := 1452) C (v := (3 : Int32)) dL_law_1452 (by decide) ?_
  refine r_iadd (pc := 1453) C dL_law_1453 ?_
  refine r_topi (fun x7 ex7 => ?_)
  have h := h x7 ex7
  obtain ⟨i8, h⟩ := h
  refine r_scLd (pc := 1454) C E i8 dL_law_1454 ?_
  refine r_topi (fun x9 ex9 => ?_)
  have h := h x9 ex9
  refine r_aload_n (pc := 1455) C dL_law_1455 0 rfl ?_
  refine r_iload (pc := 1456) C dL_law_1456 4 rfl ?_
  refine r_iconst (pc := 1458) C (v := (4 : Int32)) dL_law_1458 (by decide) ?_
  refine r_iadd (pc := 1459) C dL_law_1459 ?_
  refine r_topi (fun x10 ex10 => ?_)
  have h := h x10 ex10
  obtain ⟨i11, h⟩ := h
  refine r_scLd (pc := 1460) C E i11 dL_law_1460 ?_
  refine r_topi (fun x12 ex12 => ?_)
  have h := h x12 ex12
  refine r_aload_n (pc := 1461) C dL_law_1461 0 rfl ?_
  refine r_iload (pc := 1462) C dL_law_1462 4 rfl ?_
  refine r_iconst (pc := 1464) C (v := (5 : Int32)) dL_law_1464 (by decide) ?_
  refine r_iadd (pc := 1465) C dL_law_1465 ?_
  refine r_topi (fun x13 ex13 => ?_)
  have h := h x13 ex13
  obtain ⟨i14, h⟩ := h
  refine r_scLd (pc := 1466) C E i14 dL_law_1466 ?_
  refine r_topi (fun x15 ex15 => ?_)
  have h := h x15 ex15
  refine r_aload_n (pc := 1467) C dL_law_1467 0 rfl ?_
  refine r_iload (pc := 1468) C dL_law_1468 4 rfl ?_
  refine r_bipush (pc := 1470) C (v := (6 : Int32)) dL_law_1470 (by decide) ?_
  refine r_iadd (pc := 1472) C dL_law_1472 ?_
  refine r_topi (fun x16 ex16 => ?_)
  have h := h x16 ex16
  obtain ⟨i17, h⟩ := h
  refine r_scLd (pc := 1473) C E i17 dL_law_1473 ?_
  refine r_topi (fun x18 ex18 => ?_)
  have h := h x18 ex18
  refine r_if_eq (pc := 1474) C (tgt := 1481) dL_law_1474 (by decide) (fun c19 => ?_) (fun c19 => ?_)
  · have h := h.1 c19
    refine r_iconst (pc := 1481) C (v := (0 : Int32)) dL_law_1481 (by decide) ?_
    exact r_sub [0, 1, 2, 3, 4] rfl (T_L_law_1482 C E ht hn hX23 h)
  · have h := h.2 c19
    refine r_iconst (pc := 1477) C (v := (1 : Int32)) dL_law_1477 (by decide) ?_
    refine r_goto (pc := 1478) C (tgt := 1482) dL_law_1478 (by decide) ?_
    exact r_sub [0, 1, 2, 3, 4] rfl (T_L_law_1482 C E ht hn hX23 h)
def P_L_law_1539 (scL : Nat) (scx : Nat → Int32) (Q : Int32 → HS → Prop) (X23 : Nat → Nat → Nat → Int32 → Nat → Nat → HS → Prop) (v1 : Nat) (v2 : Nat) (v3 : Nat) (v4 : Int32) (kk : Nat) (nn : Nat) (S : HS) : Prop := ∀ x1 : Int32, x1 = v4 + (1 : Int32) → (vp_in x1 scL ∧ ∀ x3 : Int32, x3 = scx x1.toNatClampNeg → (∀ x4 : Int32, x4 = v4 + (2 : Int32) → (vp_in x4 scL ∧ ∀ x6 : Int32, x6 = scx x4.toNatClampNeg → (∀ x7 : Int32, x7 = v4 + (3 : Int32) → (vp_in x7 scL ∧ ∀ x9 : Int32, x9 = scx x7.toNatClampNeg → (∀ x10 : Int32, x10 = v4 + (4 : Int32) → (vp_in x10 scL ∧ ∀ x12 : Int32, x12 = scx x10.toNatClampNeg → (∀ x13 : Int32, x13 = v4 + (5 : Int32) → (vp_in x13 scL ∧ ∀ x15 : Int32, x15 = scx x13.toNatClampNeg → (ob S v1 9 ∧ (kk + 8 ≤ rm_L_law.cells ∧ nn + 7937 ≤ rm_L_law.slots ∧ (P_X9_there v1 x3 x6 x9 x12 x15 (fun x18 S16 => Gr S S16 → (∀ x19 : Int32, x19 = v4 + (1 : Int32) → (vp_in x19 scL ∧ ∀ x21 : Int32, x21 = scx x19.toNatClampNeg → (∀ x22 : Int32, x22 = v4 + (2 : Int32) → (vp_in x22 scL ∧ ∀ x24 : Int32, x24 = scx x22.toNatClampNeg → (∀ x25 : Int32, x25 = v4 + (3 : Int32) → (vp_in x25 scL ∧ ∀ x27 : Int32, x27 = scx x25.toNatClampNeg → (∀ x28 : Int32, x28 = v4 + (4 : Int32) → (vp_in x28 scL ∧ ∀ x30 : Int32, x30 = scx x28.toNatClampNeg → (∀ x31 : Int32, x31 = v4 + (5 : Int32) → (vp_in x31 scL ∧ ∀ x33 : Int32, x33 = scx x31.toNatClampNeg → (ob S16 v2 11 ∧ (kk + 8 ≤ rm_L_law.cells ∧ nn + 7937 ≤ rm_L_law.slots ∧ (P_X11_there v2 x21 x24 x27 x30 x33 (fun x36 S34 => Gr S16 S34 → (P_L_law_2341 scL scx Q X23 v1 v2 v3 v4 (kk + 8) (nn + 7937) S34)) S16)))))))))))))) S))))))))))))
set_option maxRecDepth 20000 in
set_option maxHeartbeats 4000000 in
theorem T_L_law_1539 {X : CX} {Q : Int32 → HS → Prop} {scb scL : Nat} {scx : Nat → Int32} (C : Cx X cL_law RL 7 rm_L_law) (E : LE X scb scL scx Q) (ht : LD X) (hn : True) {X23 : Nat → Nat → Nat → Int32 → Nat → Nat → HS → Prop} (hX23 : ∀ (v1 : Nat) (v2 : Nat) (v3 : Nat) (v4 : Int32) (kk : Nat) (nn : Nat) (S : HS), X23 v1 v2 v3 v4 kk nn S → WS X 7 kk nn 23 [(0, .ref scb), (1, .ref v1), (2, .ref v2), (3, .ref v3), (4, .int v4)] [] S) {v1 : Nat} {v2 : Nat} {v3 : Nat} {v4 : Int32} {kk : Nat} {nn : Nat} {S : HS} (h : P_L_law_1539 scL scx Q X23 v1 v2 v3 v4 kk nn S) : WS X 7 kk nn 1539 [(0, .ref scb), (1, .ref v1), (2, .ref v2), (3, .ref v3), (4, .int v4)] [] S := by
  refine r_aload_n (pc := 1539) C dL_law_1539 1 rfl ?_
  refine r_aload_n (pc := 1540) C dL_law_1540 0 rfl ?_
  refine r_iload (pc := 1541) C dL_law_1541 4 rfl ?_
  refine r_iconst (pc := 1543) C (v := (1 : Int32)) dL_law_1543 (by decide) ?_
  refine r_iadd (pc := 1544) C dL_law_1544 ?_
  refine r_topi (fun x1 ex1 => ?_)
  have h := h x1 ex1
  obtain ⟨i2, h⟩ := h
  refine r_scLd (pc := 1545) C E i2 dL_law_1545 ?_
  refine r_topi (fun x3 ex3 => ?_)
  have h := h x3 ex3
  refine r_aload_n (pc := 1546) C dL_law_1546 0 rfl ?_
  refine r_iload (pc := 1547) C dL_law_1547 4 rfl ?_
  refine r_iconst (pc := 1549) C (v := (2 : Int32)) dL_law_1549 (by decide) ?_
  refine r_iadd (pc := 1550) C dL_law_1550 ?_
  refine r_topi (fun x4 ex4 => ?_)
  have h := h x4 ex4
  obtain ⟨i5, h⟩ := h
  refine r_scLd (pc := 1551) C E i5 dL_law_1551 ?_
  refine r_topi (fun x6 ex6 => ?_)
  have h := h x6 ex6
  refine r_aload_n (pc := 1552) C dL_law_1552 0 rfl ?_
  refine r_iload (pc := 1553) C dL_law_1553 4 rfl ?_
  refine r_iconst (pc := 1555) C (v := (3 : Int32)) dL_law_1555 (by decide) ?_
  refine r_iadd (pc := 1556) C dL_law_1556 ?_
  refine r_topi (fun x7 ex7 => ?_)
  have h := h x7 ex7
  obtain ⟨i8, h⟩ := h
  refine r_scLd (pc := 1557) C E i8 dL_law_1557 ?_
  refine r_topi (fun x9 ex9 => ?_)
  have h := h x9 ex9
  refine r_aload_n (pc := 1558) C dL_law_1558 0 rfl ?_
  refine r_iload (pc := 1559) C dL_law_1559 4 rfl ?_
  refine r_iconst (pc := 1561) C (v := (4 : Int32)) dL_law_1561 (by decide) ?_
  refine r_iadd (pc := 1562) C dL_law_1562 ?_
  refine r_topi (fun x10 ex10 => ?_)
  have h := h x10 ex10
  obtain ⟨i11, h⟩ := h
  refine r_scLd (pc := 1563) C E i11 dL_law_1563 ?_
  refine r_topi (fun x12 ex12 => ?_)
  have h := h x12 ex12
  refine r_aload_n (pc := 1564) C dL_law_1564 0 rfl ?_
  refine r_iload (pc := 1565) C dL_law_1565 4 rfl ?_
  refine r_iconst (pc := 1567) C (v := (5 : Int32)) dL_law_1567 (by decide) ?_
  refine r_iadd (pc := 1568) C dL_law_1568 ?_
  refine r_topi (fun x13 ex13 => ?_)
  have h := h x13 ex13
  obtain ⟨i14, h⟩ := h
  refine r_scLd (pc := 1569) C E i14 dL_law_1569 ?_
  refine r_topi (fun x15 ex15 => ?_)
  have h := h x15 ex15
  obtain ⟨o_v1, h⟩ := h
  obtain ⟨hk, hk2, h⟩ := h
  refine r_callVi (pc := 1570) C (rest := []) (a := v1) o_v1 [.int x3, .int x6, .int x9, .int x12, .int x15] yV_X9_there g_900 (c_X9_there h) dL_law_1570 rfl rfl (Nat.le_of_ble_eq_true rfl) ⟨by decide, by decide⟩ ⟨hk, hk2⟩ (fun x18 S16 h g17 => ?_)
  have h := h g17
  have o_v1 := gr_ob g17 o_v1
  refine r_pop (pc := 1573) C dL_law_1573 rfl ?_
  refine r_aload_n (pc := 1574) C dL_law_1574 2 rfl ?_
  refine r_aload_n (pc := 1575) C dL_law_1575 0 rfl ?_
  refine r_iload (pc := 1576) C dL_law_1576 4 rfl ?_
  refine r_iconst (pc := 1578) C (v := (1 : Int32)) dL_law_1578 (by decide) ?_
  refine r_iadd (pc := 1579) C dL_law_1579 ?_
  refine r_topi (fun x19 ex19 => ?_)
  have h := h x19 ex19
  obtain ⟨i20, h⟩ := h
  refine r_scLd (pc := 1580) C E i20 dL_law_1580 ?_
  refine r_topi (fun x21 ex21 => ?_)
  have h := h x21 ex21
  refine r_aload_n (pc := 1581) C dL_law_1581 0 rfl ?_
  refine r_iload (pc := 1582) C dL_law_1582 4 rfl ?_
  refine r_iconst (pc := 1584) C (v := (2 : Int32)) dL_law_1584 (by decide) ?_
  refine r_iadd (pc := 1585) C dL_law_1585 ?_
  refine r_topi (fun x22 ex22 => ?_)
  have h := h x22 ex22
  obtain ⟨i23, h⟩ := h
  refine r_scLd (pc := 1586) C E i23 dL_law_1586 ?_
  refine r_topi (fun x24 ex24 => ?_)
  have h := h x24 ex24
  refine r_aload_n (pc := 1587) C dL_law_1587 0 rfl ?_
  refine r_iload (pc := 1588) C dL_law_1588 4 rfl ?_
  refine r_iconst (pc := 1590) C (v := (3 : Int32)) dL_law_1590 (by decide) ?_
  refine r_iadd (pc := 1591) C dL_law_1591 ?_
  refine r_topi (fun x25 ex25 => ?_)
  have h := h x25 ex25
  obtain ⟨i26, h⟩ := h
  refine r_scLd (pc := 1592) C E i26 dL_law_1592 ?_
  refine r_topi (fun x27 ex27 => ?_)
  have h := h x27 ex27
  refine r_aload_n (pc := 1593) C dL_law_1593 0 rfl ?_
  refine r_iload (pc := 1594) C dL_law_1594 4 rfl ?_
  refine r_iconst (pc := 1596) C (v := (4 : Int32)) dL_law_1596 (by decide) ?_
  refine r_iadd (pc := 1597) C dL_law_1597 ?_
  refine r_topi (fun x28 ex28 => ?_)
  have h := h x28 ex28
  obtain ⟨i29, h⟩ := h
  refine r_scLd (pc := 1598) C E i29 dL_law_1598 ?_
  refine r_topi (fun x30 ex30 => ?_)
  have h := h x30 ex30
  refine r_aload_n (pc := 1599) C dL_law_1599 0 rfl ?_
  refine r_iload (pc := 1600) C dL_law_1600 4 rfl ?_
  refine r_iconst (pc := 1602) C (v := (5 : Int32)) dL_law_1602 (by decide) ?_
  refine r_iadd (pc := 1603) C dL_law_1603 ?_
  refine r_topi (fun x31 ex31 => ?_)
  have h := h x31 ex31
  obtain ⟨i32, h⟩ := h
  refine r_scLd (pc := 1604) C E i32 dL_law_1604 ?_
  refine r_topi (fun x33 ex33 => ?_)
  have h := h x33 ex33
  obtain ⟨o_v2, h⟩ := h
  obtain ⟨hk, hk2, h⟩ := h
  refine r_callVi0 (pc := 1605) C (rest := []) (a := v2) o_v2 [.int x21, .int x24, .int x27, .int x30, .int x33] yV_X11_there g_1727 (c_X11_there h) dL_law_1605 rfl rfl (Nat.le_of_ble_eq_true rfl) ⟨by decide, by decide⟩ ⟨hk, hk2⟩ ⟨rfl, rfl⟩ (fun x36 S34 h g35 => ?_)
  have h := h g35
  have o_v1 := gr_ob g35 o_v1
  have o_v2 := gr_ob g35 o_v2
  refine r_pop (pc := 1608) C dL_law_1608 rfl ?_
  refine r_goto (pc := 1609) C (tgt := 2341) dL_law_1609 (by decide) ?_
  exact r_sub [0, 1, 2, 3, 4] rfl (T_L_law_2341 C E ht hn hX23 h)
def P_L_law_1612 (scL : Nat) (scx : Nat → Int32) (Q : Int32 → HS → Prop) (X23 : Nat → Nat → Nat → Int32 → Nat → Nat → HS → Prop) (v1 : Nat) (v2 : Nat) (v3 : Nat) (v4 : Int32) (kk : Nat) (nn : Nat) (S : HS) : Prop := ∀ x1 : Int32, x1 = v4 + (1 : Int32) → (vp_in x1 scL ∧ ∀ x3 : Int32, x3 = scx x1.toNatClampNeg → (∀ x4 : Int32, x4 = v4 + (2 : Int32) → (vp_in x4 scL ∧ ∀ x6 : Int32, x6 = scx x4.toNatClampNeg → (∀ x7 : Int32, x7 = v4 + (3 : Int32) → (vp_in x7 scL ∧ ∀ x9 : Int32, x9 = scx x7.toNatClampNeg → (∀ x10 : Int32, x10 = v4 + (4 : Int32) → (vp_in x10 scL ∧ ∀ x12 : Int32, x12 = scx x10.toNatClampNeg → (∀ x13 : Int32, x13 = v4 + (5 : Int32) → (vp_in x13 scL ∧ ∀ x15 : Int32, x15 = scx x13.toNatClampNeg → (ob S v1 9 ∧ (kk + 8 ≤ rm_L_law.cells ∧ nn + 7937 ≤ rm_L_law.slots ∧ (P_X9_steps v1 x3 x6 x9 x12 x15 (fun x18 S16 => Gr S S16 → (∀ x19 : Int32, x19 = v4 + (1 : Int32) → (vp_in x19 scL ∧ ∀ x21 : Int32, x21 = scx x19.toNatClampNeg → (∀ x22 : Int32, x22 = v4 + (2 : Int32) → (vp_in x22 scL ∧ ∀ x24 : Int32, x24 = scx x22.toNatClampNeg → (∀ x25 : Int32, x25 = v4 + (3 : Int32) → (vp_in x25 scL ∧ ∀ x27 : Int32, x27 = scx x25.toNatClampNeg → (∀ x28 : Int32, x28 = v4 + (4 : Int32) → (vp_in x28 scL ∧ ∀ x30 : Int32, x30 = scx x28.toNatClampNeg → (∀ x31 : Int32, x31 = v4 + (5 : Int32) → (vp_in x31 scL ∧ ∀ x33 : Int32, x33 = scx x31.toNatClampNeg → (ob S16 v2 11 ∧ (kk + 8 ≤ rm_L_law.cells ∧ nn + 7937 ≤ rm_L_law.slots ∧ (P_X11_steps v2 x21 x24 x27 x30 x33 (fun x36 S34 => Gr S16 S34 → (P_L_law_2341 scL scx Q X23 v1 v2 v3 v4 (kk + 8) (nn + 7937) S34)) S16)))))))))))))) S))))))))))))
set_option maxRecDepth 20000 in
set_option maxHeartbeats 4000000 in
theorem T_L_law_1612 {X : CX} {Q : Int32 → HS → Prop} {scb scL : Nat} {scx : Nat → Int32} (C : Cx X cL_law RL 7 rm_L_law) (E : LE X scb scL scx Q) (ht : LD X) (hn : True) {X23 : Nat → Nat → Nat → Int32 → Nat → Nat → HS → Prop} (hX23 : ∀ (v1 : Nat) (v2 : Nat) (v3 : Nat) (v4 : Int32) (kk : Nat) (nn : Nat) (S : HS), X23 v1 v2 v3 v4 kk nn S → WS X 7 kk nn 23 [(0, .ref scb), (1, .ref v1), (2, .ref v2), (3, .ref v3), (4, .int v4)] [] S) {v1 : Nat} {v2 : Nat} {v3 : Nat} {v4 : Int32} {kk : Nat} {nn : Nat} {S : HS} (h : P_L_law_1612 scL scx Q X23 v1 v2 v3 v4 kk nn S) : WS X 7 kk nn 1612 [(0, .ref scb), (1, .ref v1), (2, .ref v2), (3, .ref v3), (4, .int v4)] [] S := by
  refine r_aload_n (pc := 1612) C dL_law_1612 1 rfl ?_
  refine r_aload_n (pc := 1613) C dL_law_1613 0 rfl ?_
  refine r_iload (pc := 1614) C dL_law_1614 4 rfl ?_
  refine r_iconst (pc := 1616) C (v := (1 : Int32)) dL_law_1616 (by decide) ?_
  refine r_iadd (pc := 1617) C dL_law_1617 ?_
  refine r_topi (fun x1 ex1 => ?_)
  have h := h x1 ex1
  obtain ⟨i2, h⟩ := h
  refine r_scLd (pc := 1618) C E i2 dL_law_1618 ?_
  refine r_topi (fun x3 ex3 => ?_)
  have h := h x3 ex3
  refine r_aload_n (pc := 1619) C dL_law_1619 0 rfl ?_
  refine r_iload (pc := 1620) C dL_law_1620 4 rfl ?_
  refine r_iconst (pc := 1622) C (v := (2 : Int32)) dL_law_1622 (by decide) ?_
  refine r_iadd (pc := 1623) C dL_law_1623 ?_
  refine r_topi (fun x4 ex4 => ?_)
  have h := h x4 ex4
  obtain ⟨i5, h⟩ := h
  refine r_scLd (pc := 1624) C E i5 dL_law_1624 ?_
  refine r_topi (fun x6 ex6 => ?_)
  have h := h x6 ex6
  refine r_aload_n (pc := 1625) C dL_law_1625 0 rfl ?_
  refine r_iload (pc := 1626) C dL_law_1626 4 rfl ?_
  refine r_iconst (pc := 1628) C (v := (3 : Int32)) dL_law_1628 (by decide) ?_
  refine r_iadd (pc := 1629) C dL_law_1629 ?_
  refine r_topi (fun x7 ex7 => ?_)
  have h := h x7 ex7
  obtain ⟨i8, h⟩ := h
  refine r_scLd (pc := 1630) C E i8 dL_law_1630 ?_
  refine r_topi (fun x9 ex9 => ?_)
  have h := h x9 ex9
  refine r_aload_n (pc := 1631) C dL_law_1631 0 rfl ?_
  refine r_iload (pc := 1632) C dL_law_1632 4 rfl ?_
  refine r_iconst (pc := 1634) C (v := (4 : Int32)) dL_law_1634 (by decide) ?_
  refine r_iadd (pc := 1635) C dL_law_1635 ?_
  refine r_topi (fun x10 ex10 => ?_)
  have h := h x10 ex10
  obtain ⟨i11, h⟩ := h
  refine r_scLd (pc := 1636) C E i11 dL_law_1636 ?_
  refine r_topi (fun x12 ex12 => ?_)
  have h := h x12 ex12
  refine r_aload_n (pc := 1637) C dL_law_1637 0 rfl ?_
  refine r_iload (pc := 1638) C dL_law_1638 4 rfl ?_
  refine r_iconst (pc := 1640) C (v := (5 : Int32)) dL_law_1640 (by decide) ?_
  refine r_iadd (pc := 1641) C dL_law_1641 ?_
  refine r_topi (fun x13 ex13 => ?_)
  have h := h x13 ex13
  obtain ⟨i14, h⟩ := h
  refine r_scLd (pc := 1642) C E i14 dL_law_1642 ?_
  refine r_topi (fun x15 ex15 => ?_)
  have h := h x15 ex15
  obtain ⟨o_v1, h⟩ := h
  obtain ⟨hk, hk2, h⟩ := h
  refine r_callVi (pc := 1643) C (rest := []) (a := v1) o_v1 [.int x3, .int x6, .int x9, .int x12, .int x15] yV_X9_steps g_908 (c_X9_steps h) dL_law_1643 rfl rfl (Nat.le_of_ble_eq_true rfl) ⟨by decide, by decide⟩ ⟨hk, hk2⟩ (fun x18 S16 h g17 => ?_)
  have h := h g17
  have o_v1 := gr_ob g17 o_v1
  refine r_pop (pc := 1646) C dL_law_1646 rfl ?_
  refine r_aload_n (pc := 1647) C dL_law_1647 2 rfl ?_
  refine r_aload_n (pc := 1648) C dL_law_1648 0 rfl ?_
  refine r_iload (pc := 1649) C dL_law_1649 4 rfl ?_
  refine r_iconst (pc := 1651) C (v := (1 : Int32)) dL_law_1651 (by decide) ?_
  refine r_iadd (pc := 1652) C dL_law_1652 ?_
  refine r_topi (fun x19 ex19 => ?_)
  have h := h x19 ex19
  obtain ⟨i20, h⟩ := h
  refine r_scLd (pc := 1653) C E i20 dL_law_1653 ?_
  refine r_topi (fun x21 ex21 => ?_)
  have h := h x21 ex21
  refine r_aload_n (pc := 1654) C dL_law_1654 0 rfl ?_
  refine r_iload (pc := 1655) C dL_law_1655 4 rfl ?_
  refine r_iconst (pc := 1657) C (v := (2 : Int32)) dL_law_1657 (by decide) ?_
  refine r_iadd (pc := 1658) C dL_law_1658 ?_
  refine r_topi (fun x22 ex22 => ?_)
  have h := h x22 ex22
  obtain ⟨i23, h⟩ := h
  refine r_scLd (pc := 1659) C E i23 dL_law_1659 ?_
  refine r_topi (fun x24 ex24 => ?_)
  have h := h x24 ex24
  refine r_aload_n (pc := 1660) C dL_law_1660 0 rfl ?_
  refine r_iload (pc := 1661) C dL_law_1661 4 rfl ?_
  refine r_iconst (pc := 1663) C (v := (3 : Int32)) dL_law_1663 (by decide) ?_
  refine r_iadd (pc := 1664) C dL_law_1664 ?_
  refine r_topi (fun x25 ex25 => ?_)
  have h := h x25 ex25
  obtain ⟨i26, h⟩ := h
  refine r_scLd (pc := 1665) C E i26 dL_law_1665 ?_
  refine r_topi (fun x27 ex27 => ?_)
  have h := h x27 ex27
  refine r_aload_n (pc := 1666) C dL_law_1666 0 rfl ?_
  refine r_iload (pc := 1667) C dL_law_1667 4 rfl ?_
  refine r_iconst (pc := 1669) C (v := (4 : Int32)) dL_law_1669 (by decide) ?_
  refine r_iadd (pc := 1670) C dL_law_1670 ?_
  refine r_topi (fun x28 ex28 => ?_)
  have h := h x28 ex28
  obtain ⟨i29, h⟩ := h
  refine r_scLd (pc := 1671) C E i29 dL_law_1671 ?_
  refine r_topi (fun x30 ex30 => ?_)
  have h := h x30 ex30
  refine r_aload_n (pc := 1672) C dL_law_1672 0 rfl ?_
  refine r_iload (pc := 1673) C dL_law_1673 4 rfl ?_
  refine r_iconst (pc := 1675) C (v := (5 : Int32)) dL_law_1675 (by decide) ?_
  refine r_iadd (pc := 1676) C dL_law_1676 ?_
  refine r_topi (fun x31 ex31 => ?_)
  have h := h x31 ex31
  obtain ⟨i32, h⟩ := h
  refine r_scLd (pc := 1677) C E i32 dL_law_1677 ?_
  refine r_topi (fun x33 ex33 => ?_)
  have h := h x33 ex33
  obtain ⟨o_v2, h⟩ := h
  obtain ⟨hk, hk2, h⟩ := h
  refine r_callVi0 (pc := 1678) C (rest := []) (a := v2) o_v2 [.int x21, .int x24, .int x27, .int x30, .int x33] yV_X11_steps g_1731 (c_X11_steps h) dL_law_1678 rfl rfl (Nat.le_of_ble_eq_true rfl) ⟨by decide, by decide⟩ ⟨hk, hk2⟩ ⟨rfl, rfl⟩ (fun x36 S34 h g35 => ?_)
  have h := h g35
  have o_v1 := gr_ob g35 o_v1
  have o_v2 := gr_ob g35 o_v2
  refine r_pop (pc := 1681) C dL_law_1681 rfl ?_
  refine r_goto (pc := 1682) C (tgt := 2341) dL_law_1682 (by decide) ?_
  exact r_sub [0, 1, 2, 3, 4] rfl (T_L_law_2341 C E ht hn hX23 h)
def P_L_law_1685 (scL : Nat) (scx : Nat → Int32) (Q : Int32 → HS → Prop) (X23 : Nat → Nat → Nat → Int32 → Nat → Nat → HS → Prop) (v1 : Nat) (v2 : Nat) (v3 : Nat) (v4 : Int32) (kk : Nat) (nn : Nat) (S : HS) : Prop := ∀ x1 : Int32, x1 = v4 + (1 : Int32) → (vp_in x1 scL ∧ ∀ x3 : Int32, x3 = scx x1.toNatClampNeg → (∀ x4 : Int32, x4 = v4 + (2 : Int32) → (vp_in x4 scL ∧ ∀ x6 : Int32, x6 = scx x4.toNatClampNeg → (∀ x7 : Int32, x7 = v4 + (3 : Int32) → (vp_in x7 scL ∧ ∀ x9 : Int32, x9 = scx x7.toNatClampNeg → (∀ x10 : Int32, x10 = v4 + (4 : Int32) → (vp_in x10 scL ∧ ∀ x12 : Int32, x12 = scx x10.toNatClampNeg → (∀ x13 : Int32, x13 = v4 + (5 : Int32) → (vp_in x13 scL ∧ ∀ x15 : Int32, x15 = scx x13.toNatClampNeg → (∀ x16 : Int32, x16 = v4 + (6 : Int32) → (vp_in x16 scL ∧ ∀ x18 : Int32, x18 = scx x16.toNatClampNeg → (ob S v1 9 ∧ (kk + 8 ≤ rm_L_law.cells ∧ nn + 7937 ≤ rm_L_law.slots ∧ (P_X9_step v1 x3 x6 x9 x12 x15 x18 (fun x21 S19 => Gr S S19 → (∀ x22 : Int32, x22 = v4 + (1 : Int32) → (vp_in x22 scL ∧ ∀ x24 : Int32, x24 = scx x22.toNatClampNeg → (∀ x25 : Int32, x25 = v4 + (2 : Int32) → (vp_in x25 scL ∧ ∀ x27 : Int32, x27 = scx x25.toNatClampNeg → (∀ x28 : Int32, x28 = v4 + (3 : Int32) → (vp_in x28 scL ∧ ∀ x30 : Int32, x30 = scx x28.toNatClampNeg → (∀ x31 : Int32, x31 = v4 + (4 : Int32) → (vp_in x31 scL ∧ ∀ x33 : Int32, x33 = scx x31.toNatClampNeg → (∀ x34 : Int32, x34 = v4 + (5 : Int32) → (vp_in x34 scL ∧ ∀ x36 : Int32, x36 = scx x34.toNatClampNeg → (∀ x37 : Int32, x37 = v4 + (6 : Int32) → (vp_in x37 scL ∧ ∀ x39 : Int32, x39 = scx x37.toNatClampNeg → (ob S19 v2 11 ∧ (kk + 8 ≤ rm_L_law.cells ∧ nn + 7937 ≤ rm_L_law.slots ∧ (P_X11_step v2 x24 x27 x30 x33 x36 x39 (fun x42 S40 => Gr S19 S40 → (P_L_law_2341 scL scx Q X23 v1 v2 v3 v4 (kk + 8) (nn + 7937) S40)) S19)))))))))))))))) S))))))))))))))
set_option maxRecDepth 20000 in
set_option maxHeartbeats 4000000 in
theorem T_L_law_1685 {X : CX} {Q : Int32 → HS → Prop} {scb scL : Nat} {scx : Nat → Int32} (C : Cx X cL_law RL 7 rm_L_law) (E : LE X scb scL scx Q) (ht : LD X) (hn : True) {X23 : Nat → Nat → Nat → Int32 → Nat → Nat → HS → Prop} (hX23 : ∀ (v1 : Nat) (v2 : Nat) (v3 : Nat) (v4 : Int32) (kk : Nat) (nn : Nat) (S : HS), X23 v1 v2 v3 v4 kk nn S → WS X 7 kk nn 23 [(0, .ref scb), (1, .ref v1), (2, .ref v2), (3, .ref v3), (4, .int v4)] [] S) {v1 : Nat} {v2 : Nat} {v3 : Nat} {v4 : Int32} {kk : Nat} {nn : Nat} {S : HS} (h : P_L_law_1685 scL scx Q X23 v1 v2 v3 v4 kk nn S) : WS X 7 kk nn 1685 [(0, .ref scb), (1, .ref v1), (2, .ref v2), (3, .ref v3), (4, .int v4)] [] S := by
  refine r_aload_n (pc := 1685) C dL_law_1685 1 rfl ?_
  refine r_aload_n (pc := 1686) C dL_law_1686 0 rfl ?_
  refine r_iload (pc := 1687) C dL_law_1687 4 rfl ?_
  refine r_iconst (pc := 1689) C (v := (1 : Int32)) dL_law_1689 (by decide) ?_
  refine r_iadd (pc := 1690) C dL_law_1690 ?_
  refine r_topi (fun x1 ex1 => ?_)
  have h := h x1 ex1
  obtain ⟨i2, h⟩ := h
  refine r_scLd (pc := 1691) C E i2 dL_law_1691 ?_
  refine r_topi (fun x3 ex3 => ?_)
  have h := h x3 ex3
  refine r_aload_n (pc := 1692) C dL_law_1692 0 rfl ?_
  refine r_iload (pc := 1693) C dL_law_1693 4 rfl ?_
  refine r_iconst (pc := 1695) C (v := (2 : Int32)) dL_law_1695 (by decide) ?_
  refine r_iadd (pc := 1696) C dL_law_1696 ?_
  refine r_topi (fun x4 ex4 => ?_)
  have h := h x4 ex4
  obtain ⟨i5, h⟩ := h
  refine r_scLd (pc := 1697) C E i5 dL_law_1697 ?_
  refine r_topi (fun x6 ex6 => ?_)
  have h := h x6 ex6
  refine r_aload_n (pc := 1698) C dL_law_1698 0 rfl ?_
  refine r_iload (pc := 1699) C dL_law_1699 4 rfl ?_
  refine r_iconst (pc := 1701) C (v := (3 : Int32)) dL_law_1701 (by decide) ?_
  refine r_iadd (pc := 1702) C dL_law_1702 ?_
  refine r_topi (fun x7 ex7 => ?_)
  have h := h x7 ex7
  obtain ⟨i8, h⟩ := h
  refine r_scLd (pc := 1703) C E i8 dL_law_1703 ?_
  refine r_topi (fun x9 ex9 => ?_)
  have h := h x9 ex9
  refine r_aload_n (pc := 1704) C dL_law_1704 0 rfl ?_
  refine r_iload (pc := 1705) C dL_law_1705 4 rfl ?_
  refine r_iconst (pc := 1707) C (v := (4 : Int32)) dL_law_1707 (by decide) ?_
  refine r_iadd (pc := 1708) C dL_law_1708 ?_
  refine r_topi (fun x10 ex10 => ?_)
  have h := h x10 ex10
  obtain ⟨i11, h⟩ := h
  refine r_scLd (pc := 1709) C E i11 dL_law_1709 ?_
  refine r_topi (fun x12 ex12 => ?_)
  have h := h x12 ex12
  refine r_aload_n (pc := 1710) C dL_law_1710 0 rfl ?_
  refine r_iload (pc := 1711) C dL_law_1711 4 rfl ?_
  refine r_iconst (pc := 1713) C (v := (5 : Int32)) dL_law_1713 (by decide) ?_
  refine r_iadd (pc := 1714) C dL_law_1714 ?_
  refine r_topi (fun x13 ex13 => ?_)
  have h := h x13 ex13
  obtain ⟨i14, h⟩ := h
  refine r_scLd (pc := 1715) C E i14 dL_law_1715 ?_
  refine r_topi (fun x15 ex15 => ?_)
  have h := h x15 ex15
  refine r_aload_n (pc := 1716) C dL_law_1716 0 rfl ?_
  refine r_iload (pc := 1717) C dL_law_1717 4 rfl ?_
  refine r_bipush (pc := 1719) C (v := (6 : Int32)) dL_law_1719 (by decide) ?_
  refine r_iadd (pc := 1721) C dL_law_1721 ?_
  refine r_topi (fun x16 ex16 => ?_)
  have h := h x16 ex16
  obtain ⟨i17, h⟩ := h
  refine r_scLd (pc := 1722) C E i17 dL_law_1722 ?_
  refine r_topi (fun x18 ex18 => ?_)
  have h := h x18 ex18
  obtain ⟨o_v1, h⟩ := h
  obtain ⟨hk, hk2, h⟩ := h
  refine r_callVi (pc := 1723) C (rest := []) (a := v1) o_v1 [.int x3, .int x6, .int x9, .int x12, .int x15, .int x18] yV_X9_step g_917 (c_X9_step h) dL_law_1723 rfl rfl (Nat.le_of_ble_eq_true rfl) ⟨by decide, by decide⟩ ⟨hk, hk2⟩ (fun x21 S19 h g20 => ?_)
  have h := h g20
  have o_v1 := gr_ob g20 o_v1
  refine r_pop (pc := 1726) C dL_law_1726 rfl ?_
  refine r_aload_n (pc := 1727) C dL_law_1727 2 rfl ?_
  refine r_aload_n (pc := 1728) C dL_law_1728 0 rfl ?_
  refine r_iload (pc := 1729) C dL_law_1729 4 rfl ?_
  refine r_iconst (pc := 1731) C (v := (1 : Int32)) dL_law_1731 (by decide) ?_
  refine r_iadd (pc := 1732) C dL_law_1732 ?_
  refine r_topi (fun x22 ex22 => ?_)
  have h := h x22 ex22
  obtain ⟨i23, h⟩ := h
  refine r_scLd (pc := 1733) C E i23 dL_law_1733 ?_
  refine r_topi (fun x24 ex24 => ?_)
  have h := h x24 ex24
  refine r_aload_n (pc := 1734) C dL_law_1734 0 rfl ?_
  refine r_iload (pc := 1735) C dL_law_1735 4 rfl ?_
  refine r_iconst (pc := 1737) C (v := (2 : Int32)) dL_law_1737 (by decide) ?_
  refine r_iadd (pc := 1738) C dL_law_1738 ?_
  refine r_topi (fun x25 ex25 => ?_)
  have h := h x25 ex25
  obtain ⟨i26, h⟩ := h
  refine r_scLd (pc := 1739) C E i26 dL_law_1739 ?_
  refine r_topi (fun x27 ex27 => ?_)
  have h := h x27 ex27
  refine r_aload_n (pc := 1740) C dL_law_1740 0 rfl ?_
  refine r_iload (pc := 1741) C dL_law_1741 4 rfl ?_
  refine r_iconst (pc := 1743) C (v := (3 : Int32)) dL_law_1743 (by decide) ?_
  refine r_iadd (pc := 1744) C dL_law_1744 ?_
  refine r_topi (fun x28 ex28 => ?_)
  have h := h x28 ex28
  obtain ⟨i29, h⟩ := h
  refine r_scLd (pc := 1745) C E i29 dL_law_1745 ?_
  refine r_topi (fun x30 ex30 => ?_)
  have h := h x30 ex30
  refine r_aload_n (pc := 1746) C dL_law_1746 0 rfl ?_
  refine r_iload (pc := 1747) C dL_law_1747 4 rfl ?_
  refine r_iconst (pc := 1749) C (v := (4 : Int32)) dL_law_1749 (by decide) ?_
  refine r_iadd (pc := 1750) C dL_law_1750 ?_
  refine r_topi (fun x31 ex31 => ?_)
  have h := h x31 ex31
  obtain ⟨i32, h⟩ := h
  refine r_scLd (pc := 1751) C E i32 dL_law_1751 ?_
  refine r_topi (fun x33 ex33 => ?_)
  have h := h x33 ex33
  refine r_aload_n (pc := 1752) C dL_law_1752 0 rfl ?_
  refine r_iload (pc := 1753) C dL_law_1753 4 rfl ?_
  refine r_iconst (pc := 1755) C (v := (5 : Int32)) dL_law_1755 (by decide) ?_
  refine r_iadd (pc := 1756) C dL_law_1756 ?_
  refine r_topi (fun x34 ex34 => ?_)
  have h := h x34 ex34
  obtain ⟨i35, h⟩ := h
  refine r_scLd (pc := 1757) C E i35 dL_law_1757 ?_
  refine r_topi (fun x36 ex36 => ?_)
  have h := h x36 ex36
  refine r_aload_n (pc := 1758) C dL_law_1758 0 rfl ?_
  refine r_iload (pc := 1759) C dL_law_1759 4 rfl ?_
  refine r_bipush (pc := 1761) C (v := (6 : Int32)) dL_law_1761 (by decide) ?_
  refine r_iadd (pc := 1763) C dL_law_1763 ?_
  refine r_topi (fun x37 ex37 => ?_)
  have h := h x37 ex37
  obtain ⟨i38, h⟩ := h
  refine r_scLd (pc := 1764) C E i38 dL_law_1764 ?_
  refine r_topi (fun x39 ex39 => ?_)
  have h := h x39 ex39
  obtain ⟨o_v2, h⟩ := h
  obtain ⟨hk, hk2, h⟩ := h
  refine r_callVi0 (pc := 1765) C (rest := []) (a := v2) o_v2 [.int x24, .int x27, .int x30, .int x33, .int x36, .int x39] yV_X11_step g_1739 (c_X11_step h) dL_law_1765 rfl rfl (Nat.le_of_ble_eq_true rfl) ⟨by decide, by decide⟩ ⟨hk, hk2⟩ ⟨rfl, rfl⟩ (fun x42 S40 h g41 => ?_)
  have h := h g41
  have o_v1 := gr_ob g41 o_v1
  have o_v2 := gr_ob g41 o_v2
  refine r_pop (pc := 1768) C dL_law_1768 rfl ?_
  refine r_goto (pc := 1769) C (tgt := 2341) dL_law_1769 (by decide) ?_
  exact r_sub [0, 1, 2, 3, 4] rfl (T_L_law_2341 C E ht hn hX23 h)
def P_L_law_1772 (scL : Nat) (scx : Nat → Int32) (Q : Int32 → HS → Prop) (X23 : Nat → Nat → Nat → Int32 → Nat → Nat → HS → Prop) (v1 : Nat) (v2 : Nat) (v3 : Nat) (v4 : Int32) (kk : Nat) (nn : Nat) (S : HS) : Prop := ∀ x1 : Int32, x1 = v4 + (1 : Int32) → (vp_in x1 scL ∧ ∀ x3 : Int32, x3 = scx x1.toNatClampNeg → (∀ x4 : Int32, x4 = v4 + (2 : Int32) → (vp_in x4 scL ∧ ∀ x6 : Int32, x6 = scx x4.toNatClampNeg → (∀ x7 : Int32, x7 = v4 + (3 : Int32) → (vp_in x7 scL ∧ ∀ x9 : Int32, x9 = scx x7.toNatClampNeg → (∀ x10 : Int32, x10 = v4 + (4 : Int32) → (vp_in x10 scL ∧ ∀ x12 : Int32, x12 = scx x10.toNatClampNeg → (ob S v1 9 ∧ (kk + 8 ≤ rm_L_law.cells ∧ nn + 7937 ≤ rm_L_law.slots ∧ (P_X9_off v1 x3 x6 x9 x12 (fun x15 S13 => Gr S S13 → (∀ x16 : Int32, x16 = v4 + (1 : Int32) → (vp_in x16 scL ∧ ∀ x18 : Int32, x18 = scx x16.toNatClampNeg → (∀ x19 : Int32, x19 = v4 + (2 : Int32) → (vp_in x19 scL ∧ ∀ x21 : Int32, x21 = scx x19.toNatClampNeg → (∀ x22 : Int32, x22 = v4 + (3 : Int32) → (vp_in x22 scL ∧ ∀ x24 : Int32, x24 = scx x22.toNatClampNeg → (∀ x25 : Int32, x25 = v4 + (4 : Int32) → (vp_in x25 scL ∧ ∀ x27 : Int32, x27 = scx x25.toNatClampNeg → (ob S13 v2 11 ∧ (kk + 8 ≤ rm_L_law.cells ∧ nn + 7937 ≤ rm_L_law.slots ∧ (P_X11_off v2 x18 x21 x24 x27 (fun x30 S28 => Gr S13 S28 → (((x15 = x30) → (P_L_law_2341 scL scx Q X23 v1 v2 v3 v4 (kk + 8) (nn + 7937) S28)) ∧ ((¬ x15 = x30) → (kk + 8 ≤ rm_L_law.cells ∧ nn + 7937 ≤ rm_L_law.slots ∧ (0 : Int32) = 1 ∧ Q (0 : Int32) S28)))) S13)))))))))))) S))))))))))
set_option maxRecDepth 20000 in
set_option maxHeartbeats 4000000 in
theorem T_L_law_1772 {X : CX} {Q : Int32 → HS → Prop} {scb scL : Nat} {scx : Nat → Int32} (C : Cx X cL_law RL 7 rm_L_law) (E : LE X scb scL scx Q) (ht : LD X) (hn : True) {X23 : Nat → Nat → Nat → Int32 → Nat → Nat → HS → Prop} (hX23 : ∀ (v1 : Nat) (v2 : Nat) (v3 : Nat) (v4 : Int32) (kk : Nat) (nn : Nat) (S : HS), X23 v1 v2 v3 v4 kk nn S → WS X 7 kk nn 23 [(0, .ref scb), (1, .ref v1), (2, .ref v2), (3, .ref v3), (4, .int v4)] [] S) {v1 : Nat} {v2 : Nat} {v3 : Nat} {v4 : Int32} {kk : Nat} {nn : Nat} {S : HS} (h : P_L_law_1772 scL scx Q X23 v1 v2 v3 v4 kk nn S) : WS X 7 kk nn 1772 [(0, .ref scb), (1, .ref v1), (2, .ref v2), (3, .ref v3), (4, .int v4)] [] S := by
  refine r_aload_n (pc := 1772) C dL_law_1772 1 rfl ?_
  refine r_aload_n (pc := 1773) C dL_law_1773 0 rfl ?_
  refine r_iload (pc := 1774) C dL_law_1774 4 rfl ?_
  refine r_iconst (pc := 1776) C (v := (1 : Int32)) dL_law_1776 (by decide) ?_
  refine r_iadd (pc := 1777) C dL_law_1777 ?_
  refine r_topi (fun x1 ex1 => ?_)
  have h := h x1 ex1
  obtain ⟨i2, h⟩ := h
  refine r_scLd (pc := 1778) C E i2 dL_law_1778 ?_
  refine r_topi (fun x3 ex3 => ?_)
  have h := h x3 ex3
  refine r_aload_n (pc := 1779) C dL_law_1779 0 rfl ?_
  refine r_iload (pc := 1780) C dL_law_1780 4 rfl ?_
  refine r_iconst (pc := 1782) C (v := (2 : Int32)) dL_law_1782 (by decide) ?_
  refine r_iadd (pc := 1783) C dL_law_1783 ?_
  refine r_topi (fun x4 ex4 => ?_)
  have h := h x4 ex4
  obtain ⟨i5, h⟩ := h
  refine r_scLd (pc := 1784) C E i5 dL_law_1784 ?_
  refine r_topi (fun x6 ex6 => ?_)
  have h := h x6 ex6
  refine r_aload_n (pc := 1785) C dL_law_1785 0 rfl ?_
  refine r_iload (pc := 1786) C dL_law_1786 4 rfl ?_
  refine r_iconst (pc := 1788) C (v := (3 : Int32)) dL_law_1788 (by decide) ?_
  refine r_iadd (pc := 1789) C dL_law_1789 ?_
  refine r_topi (fun x7 ex7 => ?_)
  have h := h x7 ex7
  obtain ⟨i8, h⟩ := h
  refine r_scLd (pc := 1790) C E i8 dL_law_1790 ?_
  refine r_topi (fun x9 ex9 => ?_)
  have h := h x9 ex9
  refine r_aload_n (pc := 1791) C dL_law_1791 0 rfl ?_
  refine r_iload (pc := 1792) C dL_law_1792 4 rfl ?_
  refine r_iconst (pc := 1794) C (v := (4 : Int32)) dL_law_1794 (by decide) ?_
  refine r_iadd (pc := 1795) C dL_law_1795 ?_
  refine r_topi (fun x10 ex10 => ?_)
  have h := h x10 ex10
  obtain ⟨i11, h⟩ := h
  refine r_scLd (pc := 1796) C E i11 dL_law_1796 ?_
  refine r_topi (fun x12 ex12 => ?_)
  have h := h x12 ex12
  obtain ⟨o_v1, h⟩ := h
  obtain ⟨hk, hk2, h⟩ := h
  refine r_callVi (pc := 1797) C (rest := []) (a := v1) o_v1 [.int x3, .int x6, .int x9, .int x12] yV_X9_off g_921 (c_X9_off h) dL_law_1797 rfl rfl (Nat.le_of_ble_eq_true rfl) ⟨by decide, by decide⟩ ⟨hk, hk2⟩ (fun x15 S13 h g14 => ?_)
  have h := h g14
  have o_v1 := gr_ob g14 o_v1
  refine r_aload_n (pc := 1800) C dL_law_1800 2 rfl ?_
  refine r_aload_n (pc := 1801) C dL_law_1801 0 rfl ?_
  refine r_iload (pc := 1802) C dL_law_1802 4 rfl ?_
  refine r_iconst (pc := 1804) C (v := (1 : Int32)) dL_law_1804 (by decide) ?_
  refine r_iadd (pc := 1805) C dL_law_1805 ?_
  refine r_topi (fun x16 ex16 => ?_)
  have h := h x16 ex16
  obtain ⟨i17, h⟩ := h
  refine r_scLd (pc := 1806) C E i17 dL_law_1806 ?_
  refine r_topi (fun x18 ex18 => ?_)
  have h := h x18 ex18
  refine r_aload_n (pc := 1807) C dL_law_1807 0 rfl ?_
  refine r_iload (pc := 1808) C dL_law_1808 4 rfl ?_
  refine r_iconst (pc := 1810) C (v := (2 : Int32)) dL_law_1810 (by decide) ?_
  refine r_iadd (pc := 1811) C dL_law_1811 ?_
  refine r_topi (fun x19 ex19 => ?_)
  have h := h x19 ex19
  obtain ⟨i20, h⟩ := h
  refine r_scLd (pc := 1812) C E i20 dL_law_1812 ?_
  refine r_topi (fun x21 ex21 => ?_)
  have h := h x21 ex21
  refine r_aload_n (pc := 1813) C dL_law_1813 0 rfl ?_
  refine r_iload (pc := 1814) C dL_law_1814 4 rfl ?_
  refine r_iconst (pc := 1816) C (v := (3 : Int32)) dL_law_1816 (by decide) ?_
  refine r_iadd (pc := 1817) C dL_law_1817 ?_
  refine r_topi (fun x22 ex22 => ?_)
  have h := h x22 ex22
  obtain ⟨i23, h⟩ := h
  refine r_scLd (pc := 1818) C E i23 dL_law_1818 ?_
  refine r_topi (fun x24 ex24 => ?_)
  have h := h x24 ex24
  refine r_aload_n (pc := 1819) C dL_law_1819 0 rfl ?_
  refine r_iload (pc := 1820) C dL_law_1820 4 rfl ?_
  refine r_iconst (pc := 1822) C (v := (4 : Int32)) dL_law_1822 (by decide) ?_
  refine r_iadd (pc := 1823) C dL_law_1823 ?_
  refine r_topi (fun x25 ex25 => ?_)
  have h := h x25 ex25
  obtain ⟨i26, h⟩ := h
  refine r_scLd (pc := 1824) C E i26 dL_law_1824 ?_
  refine r_topi (fun x27 ex27 => ?_)
  have h := h x27 ex27
  obtain ⟨o_v2, h⟩ := h
  obtain ⟨hk, hk2, h⟩ := h
  refine r_callVi0 (pc := 1825) C (rest := [.int x15]) (a := v2) o_v2 [.int x18, .int x21, .int x24, .int x27] yV_X11_off g_1743 (c_X11_off h) dL_law_1825 rfl rfl (Nat.le_of_ble_eq_true rfl) ⟨by decide, by decide⟩ ⟨hk, hk2⟩ ⟨rfl, rfl⟩ (fun x30 S28 h g29 => ?_)
  have h := h g29
  have o_v1 := gr_ob g29 o_v1
  have o_v2 := gr_ob g29 o_v2
  refine r_icmp_eq (pc := 1828) C (tgt := 2341) dL_law_1828 (by decide) (fun c31 => ?_) (fun c31 => ?_)
  · have h := h.1 c31
    exact r_sub [0, 1, 2, 3, 4] rfl (T_L_law_2341 C E ht hn hX23 h)
  · have h := h.2 c31
    refine r_iconst (pc := 1831) C (v := (0 : Int32)) dL_law_1831 (by decide) ?_
    obtain ⟨hk, hk2, he, h⟩ := h
    exact r_lawret (pc := 1832) C E dL_law_1832 hk hk2 he
end
