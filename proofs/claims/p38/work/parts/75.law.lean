section
theorem sc_nI {v4 x : Int32} {c j : Nat} (hv : v4 = nI (8 * c)) (hx : x = v4 + nI j) : x = nI (8 * c + j) := by rw [hx, hv, nI_add]
theorem sc_in {v4 x k : Int32} {c j L : Nat} (hv : v4 = nI (8 * c)) (hc : 8 * c + 8 ≤ L) (hL : L ≤ 4096) (hx : x = v4 + k) (hj : j < 8) (hk : k = nI j) : vp_in x L := by
  have e : x = nI (8 * c + j) := sc_nI hv (by rw [hx, hk])
  rw [e]
  exact nI_in (by omega) (by omega)
theorem sc_in0 {v4 : Int32} {c L : Nat} (hv : v4 = nI (8 * c)) (hc : 8 * c + 8 ≤ L) (hL : L ≤ 4096) : vp_in v4 L := by
  rw [hv]
  exact nI_in (by omega) (by omega)
/-- what holds at the head of the law's loop, c calls done -/
def LI (v1 v2 v3 : Nat) (v4 : Int32) (kk nn : Nat) (S : HS) (c : Nat) : Prop := IV S ∧ ob S v1 9 ∧ ob S v2 11 ∧ ob S v3 14 ∧ hN S v3 = 1 ∧ TT v1 v2 S ∧ fI S v1 7 = fI S v2 13 ∧ WH v1 v2 S ∧ WRy v1 v2 S ∧ v4 = nI (8 * c) ∧ kk ≤ 200 + 35 * c ∧ nn ≤ 13000 + 8200 * c

set_option maxHeartbeats 4000000 in
set_option maxRecDepth 20000 in
theorem a_L_law_216 {scL : Nat} {scx : Nat → Int32} {Q : Int32 → HS → Prop} {X23 : Nat → Nat → Nat → Int32 → Nat → Nat → HS → Prop} {v1 v2 v3 : Nat} {v4 : Int32} {kk nn : Nat} {S : HS} {c : Nat} (hL : scL ≤ 4096) (hc : 8 * c + 8 ≤ scL) (hb : ∀ x : Int32, x = v4 + (8 : Int32) → ∀ (kk nn : Nat) (T : HS), IV T → ob T v1 9 → ob T v2 11 → ob T v3 14 → hN T v3 = 1 → TT v1 v2 T → fI T v1 7 = fI T v2 13 → WH v1 v2 T → WRy v1 v2 T → kk ≤ 200 + 35 * (c + 1) → nn ≤ 13000 + 8200 * (c + 1) → X23 v1 v2 v3 x kk nn T) (h : LI v1 v2 v3 v4 kk nn S c) : P_L_law_216 scL scx Q X23 v1 v2 v3 v4 kk nn S := by
  obtain ⟨hI, o1, o2, o3, l3, tp, fa, wh, wr, hv, hk, hn⟩ := h
  obtain ⟨AA, GG, wr, gb⟩ := wr
  unfold P_L_law_216
  intro x1 ex1
  refine ⟨sc_in (j := 1) hv hc hL ex1 (by omega) (by decide), ?_⟩
  intro x2 ex2
  intro x3 ex3
  refine ⟨sc_in (j := 2) hv hc hL ex3 (by omega) (by decide), ?_⟩
  intro x4 ex4
  intro x5 ex5
  refine ⟨sc_in (j := 3) hv hc hL ex5 (by omega) (by decide), ?_⟩
  intro x6 ex6
  intro x7 ex7
  refine ⟨sc_in (j := 4) hv hc hL ex7 (by omega) (by decide), ?_⟩
  intro x8 ex8
  intro x9 ex9
  refine ⟨sc_in (j := 5) hv hc hL ex9 (by omega) (by decide), ?_⟩
  intro x10 ex10
  refine ⟨o1, ?_⟩
  refine ⟨by show _ ≤ 601024; omega, by show _ ≤ 7293034; omega, ?_⟩
  have tt0 := tp
  have c1 := o1
  have c2 := o2
  obtain ⟨f9, t9, a9, b9, ht9, TPc, TPm, hab9, hB9⟩ := tp
  refine mz_X9_feed hI o1 TPc ht9 (fun x12 S11 hJ g13 fc14 pp wa1 kz => ?_)
  have wr := wr_keep hI o2 wr kz.1 kz.2 fc14 (by decide) (by decide) (by decide)
  have TPd := tp_ft TPm wa1.1 (Ne.symm hab9) (ob_ne TPm.2.2.2.1 o1 (by decide)) (ob_ne o2 TPc.2.2.2.1 (by decide)) (ob_ne o2 o1 (by decide))
  have fa := fa_fri fa o1 o2 fc14 (by decide) (by decide)
  have wh := wh_fri wh o1 o2 fc14 (by decide) (by decide) (by decide)
  have hI := hJ
  have l3 := (gr_len g13 o3).trans l3
  have o1 := gr_ob g13 o1
  have o2 := gr_ob g13 o2
  have o3 := gr_ob g13 o3
  intro _
  intro x15 ex15
  refine ⟨sc_in (j := 1) hv hc hL ex15 (by omega) (by decide), ?_⟩
  intro x16 ex16
  intro x17 ex17
  refine ⟨sc_in (j := 2) hv hc hL ex17 (by omega) (by decide), ?_⟩
  intro x18 ex18
  intro x19 ex19
  refine ⟨sc_in (j := 3) hv hc hL ex19 (by omega) (by decide), ?_⟩
  intro x20 ex20
  intro x21 ex21
  refine ⟨sc_in (j := 4) hv hc hL ex21 (by omega) (by decide), ?_⟩
  intro x22 ex22
  intro x23 ex23
  refine ⟨sc_in (j := 5) hv hc hL ex23 (by omega) (by decide), ?_⟩
  intro x24 ex24
  refine ⟨o2, ?_⟩
  refine ⟨by show _ ≤ 601024; omega, by show _ ≤ 7293034; omega, ?_⟩
  refine mz_X11_feed hI o2 TPd ht9 (fun x26 S25 hJ g27 fc28 pp wa2 kz => ?_)
  have wr := wr_keep hI o2 wr kz.1 kz.2 fc28 (by decide) (by decide) (by decide)
  have fe0 := tt_feed c1 c2 ht9 TPc TPm hab9 hB9 wa1.1 wa1.2 wa2.1 (by subst_vars; exact wa2.2)
  have tp := fe0.1
  have fe := fe0.2
  have fa := fa_fri fa o1 o2 fc28 (by decide) (by decide)
  have wh := wh_fri wh o1 o2 fc28 (by decide) (by decide) (by decide)
  have hI := hJ
  have l3 := (gr_len g27 o3).trans l3
  have o1 := gr_ob g27 o1
  have o2 := gr_ob g27 o2
  have o3 := gr_ob g27 o3
  intro _
  unfold P_L_law_2341
  intro x29 ex29
  have back := hb x29 ex29
  exact back _ _ _ hI o1 o2 o3 l3 tp fa wh ⟨AA, GG, wr, gb⟩ (by omega) (by omega)
set_option maxHeartbeats 4000000 in
set_option maxRecDepth 20000 in
theorem a_L_law_289 {scL : Nat} {scx : Nat → Int32} {Q : Int32 → HS → Prop} {X23 : Nat → Nat → Nat → Int32 → Nat → Nat → HS → Prop} {v1 v2 v3 : Nat} {v4 : Int32} {kk nn : Nat} {S : HS} {c : Nat} (hL : scL ≤ 4096) (hc : 8 * c + 8 ≤ scL) (hb : ∀ x : Int32, x = v4 + (8 : Int32) → ∀ (kk nn : Nat) (T : HS), IV T → ob T v1 9 → ob T v2 11 → ob T v3 14 → hN T v3 = 1 → TT v1 v2 T → fI T v1 7 = fI T v2 13 → WH v1 v2 T → WRy v1 v2 T → kk ≤ 200 + 35 * (c + 1) → nn ≤ 13000 + 8200 * (c + 1) → X23 v1 v2 v3 x kk nn T) (h : LI v1 v2 v3 v4 kk nn S c) : P_L_law_289 scL scx Q X23 v1 v2 v3 v4 kk nn S := by
  obtain ⟨hI, o1, o2, o3, l3, tp, fa, wh, wr, hv, hk, hn⟩ := h
  obtain ⟨AA, GG, wr, gb⟩ := wr
  unfold P_L_law_289
  intro x30 ex30
  refine ⟨sc_in (j := 1) hv hc hL ex30 (by omega) (by decide), ?_⟩
  intro x31 ex31
  refine ⟨o1, ?_⟩
  refine ⟨by show _ ≤ 601024; omega, by show _ ≤ 7293034; omega, ?_⟩
  have tt0 := tp
  have c1 := o1
  have c2 := o2
  obtain ⟨f9, t9, a9, b9, ht9, TPc, TPm, hab9, hB9⟩ := tp
  have wr0 := wr
  obtain ⟨r9, w9, u9, J9, h91, h92, h93, h94⟩ := wr0
  have hI0 := hI
  refine my_X9_world hI o1 TPc ht9 J9 (fun x33 S32 hJ g34 fc35 pp Kg34 wa1 wx1 => ?_)
  have gw := g34
  have TPd := tp_mid TPm o2 Kg34 fc35 (by decide) (by decide)
  have fp1 := pp
  have Kw := Kg34
  have fw := fc35
  have hI := hJ
  have l3 := (gr_len g34 o3).trans l3
  have o1 := gr_ob g34 o1
  have o2 := gr_ob g34 o2
  have o3 := gr_ob g34 o3
  intro _
  intro x36 ex36
  refine ⟨sc_in (j := 1) hv hc hL ex36 (by omega) (by decide), ?_⟩
  intro x37 ex37
  refine ⟨o2, ?_⟩
  refine ⟨by show _ ≤ 601024; omega, by show _ ≤ 7293034; omega, ?_⟩
  refine my_X11_world hI o2 TPd ht9 hB9 (fun x39 S38 hJ g40 fc41 pp Kg40 wa2 wx2 => ?_)
  have tp := tt_world tt0 c1 c2 Kw Kg40 fw fc41 (by decide) (by decide) (by decide) (by decide) (by decide) (by decide) fp1 (by subst_vars; exact pp)
  have fe := wc_wm ht9 wa1 (by subst_vars; exact wa2)
  have fa := fa_world ht9 wa1 (by subst_vars; exact wa2) fa o1 c2 fw fc41 (by decide) (by decide)
  have wh := wh_world ht9 wa1 (by subst_vars; exact wa2) o1 fc41 (by decide) (by decide)
  have wrx := wr_wy hI0 hI hJ c2 J9 h91 h92 h93 h94 gw wx1.2 fw (by decide) (by decide) (by decide) (by decide) g40 wx1.1 (by subst_vars; exact wx2) gb (fun p hp => rw_gb hp)
  have hI := hJ
  have l3 := (gr_len g40 o3).trans l3
  have o1 := gr_ob g40 o1
  have o2 := gr_ob g40 o2
  have o3 := gr_ob g40 o3
  intro _
  unfold P_L_law_2341
  intro x42 ex42
  have back := hb x42 ex42
  exact back _ _ _ hI o1 o2 o3 l3 tp fa wh wrx (by omega) (by omega)
set_option maxHeartbeats 4000000 in
set_option maxRecDepth 20000 in
theorem a_L_law_314 {scL : Nat} {scx : Nat → Int32} {Q : Int32 → HS → Prop} {X23 : Nat → Nat → Nat → Int32 → Nat → Nat → HS → Prop} {v1 v2 v3 : Nat} {v4 : Int32} {kk nn : Nat} {S : HS} {c : Nat} (hL : scL ≤ 4096) (hc : 8 * c + 8 ≤ scL) (hb : ∀ x : Int32, x = v4 + (8 : Int32) → ∀ (kk nn : Nat) (T : HS), IV T → ob T v1 9 → ob T v2 11 → ob T v3 14 → hN T v3 = 1 → TT v1 v2 T → fI T v1 7 = fI T v2 13 → WH v1 v2 T → WRy v1 v2 T → kk ≤ 200 + 35 * (c + 1) → nn ≤ 13000 + 8200 * (c + 1) → X23 v1 v2 v3 x kk nn T) (h : LI v1 v2 v3 v4 kk nn S c) : P_L_law_314 scL scx Q X23 v1 v2 v3 v4 kk nn S := by
  obtain ⟨hI, o1, o2, o3, l3, tp, fa, wh, wr, hv, hk, hn⟩ := h
  obtain ⟨AA, GG, wr, gb⟩ := wr
  unfold P_L_law_314
  refine ⟨o1, ?_⟩
  refine ⟨by show _ ≤ 601024; omega, by show _ ≤ 7293034; omega, ?_⟩
  refine mv_X9_fault hI o1 (fun x44 S43 hJ g45 pp Kg45 vv1 => ?_)
  subst pp
  intro _
  refine ⟨o2, ?_⟩
  refine ⟨by show _ ≤ 601024; omega, by show _ ≤ 7293034; omega, ?_⟩
  refine mz_X11_fault hI o2 (fun x48 S47 hJ g49 fc50 Kg49 vv2 kz => ?_)
  have wr := wr_keep hI o2 wr kz.1 kz.2 fc50 (by decide) (by decide) (by decide)
  have fe := vv1.trans (fa.trans vv2.symm)
  have tp := tt_fri tp o1 o2 Kg49 fc50 (by decide) (by decide) (by decide) (by decide)
  have fa := fa_fri fa o1 o2 fc50 (by decide) (by decide)
  have wh := wh_fri wh o1 o2 fc50 (by decide) (by decide) (by decide)
  have hI := hJ
  have l3 := (gr_len g49 o3).trans l3
  have o1 := gr_ob g49 o1
  have o2 := gr_ob g49 o2
  have o3 := gr_ob g49 o3
  intro _
  unfold P_L_law_2341
  intro x51 ex51
  have back := hb x51 ex51
  exact back _ _ _ hI o1 o2 o3 l3 tp fa wh ⟨AA, GG, wr, gb⟩ (by omega) (by omega)
set_option maxHeartbeats 4000000 in
set_option maxRecDepth 20000 in
theorem a_L_law_327 {scL : Nat} {scx : Nat → Int32} {Q : Int32 → HS → Prop} {X23 : Nat → Nat → Nat → Int32 → Nat → Nat → HS → Prop} {v1 v2 v3 : Nat} {v4 : Int32} {kk nn : Nat} {S : HS} {c : Nat} (hL : scL ≤ 4096) (hc : 8 * c + 8 ≤ scL) (hb : ∀ x : Int32, x = v4 + (8 : Int32) → ∀ (kk nn : Nat) (T : HS), IV T → ob T v1 9 → ob T v2 11 → ob T v3 14 → hN T v3 = 1 → TT v1 v2 T → fI T v1 7 = fI T v2 13 → WH v1 v2 T → WRy v1 v2 T → kk ≤ 200 + 35 * (c + 1) → nn ≤ 13000 + 8200 * (c + 1) → X23 v1 v2 v3 x kk nn T) (h : LI v1 v2 v3 v4 kk nn S c) : P_L_law_327 scL scx Q X23 v1 v2 v3 v4 kk nn S := by
  obtain ⟨hI, o1, o2, o3, l3, tp, fa, wh, wr, hv, hk, hn⟩ := h
  obtain ⟨AA, GG, wr, gb⟩ := wr
  unfold P_L_law_327
  refine ⟨o1, ?_⟩
  refine ⟨by show _ ≤ 601024; omega, by show _ ≤ 7293034; omega, ?_⟩
  refine mv_X9_where hI o1 (fun x53 S52 hJ g54 pp Kg54 vv1 => ?_)
  subst pp
  intro _
  refine ⟨o2, ?_⟩
  refine ⟨by show _ ≤ 601024; omega, by show _ ≤ 7293034; omega, ?_⟩
  refine mz_X11_where hI o2 (fun x57 S56 hJ g58 fc59 Kg58 vv2 kz => ?_)
  have wr := wr_keep hI o2 wr kz.1 kz.2 fc59 (by decide) (by decide) (by decide)
  have fe := wh_eq wh vv1 vv2
  have tp := tt_fri tp o1 o2 Kg58 fc59 (by decide) (by decide) (by decide) (by decide)
  have fa := fa_fri fa o1 o2 fc59 (by decide) (by decide)
  have wh := wh_fri wh o1 o2 fc59 (by decide) (by decide) (by decide)
  have hI := hJ
  have l3 := (gr_len g58 o3).trans l3
  have o1 := gr_ob g58 o1
  have o2 := gr_ob g58 o2
  have o3 := gr_ob g58 o3
  intro _
  unfold P_L_law_2341
  intro x60 ex60
  have back := hb x60 ex60
  exact back _ _ _ hI o1 o2 o3 l3 tp fa wh ⟨AA, GG, wr, gb⟩ (by omega) (by omega)
set_option maxHeartbeats 4000000 in
set_option maxRecDepth 20000 in
theorem a_L_law_340 {scL : Nat} {scx : Nat → Int32} {Q : Int32 → HS → Prop} {X23 : Nat → Nat → Nat → Int32 → Nat → Nat → HS → Prop} {v1 v2 v3 : Nat} {v4 : Int32} {kk nn : Nat} {S : HS} {c : Nat} (hL : scL ≤ 4096) (hc : 8 * c + 8 ≤ scL) (hb : ∀ x : Int32, x = v4 + (8 : Int32) → ∀ (kk nn : Nat) (T : HS), IV T → ob T v1 9 → ob T v2 11 → ob T v3 14 → hN T v3 = 1 → TT v1 v2 T → fI T v1 7 = fI T v2 13 → WH v1 v2 T → WRy v1 v2 T → kk ≤ 200 + 35 * (c + 1) → nn ≤ 13000 + 8200 * (c + 1) → X23 v1 v2 v3 x kk nn T) (h : LI v1 v2 v3 v4 kk nn S c) : P_L_law_340 scL scx Q X23 v1 v2 v3 v4 kk nn S := by
  obtain ⟨hI, o1, o2, o3, l3, tp, fa, wh, wr, hv, hk, hn⟩ := h
  obtain ⟨AA, GG, wr, gb⟩ := wr
  unfold P_L_law_340
  intro x61 ex61
  refine ⟨sc_in (j := 1) hv hc hL ex61 (by omega) (by decide), ?_⟩
  intro x62 ex62
  intro x63 ex63
  refine ⟨sc_in (j := 2) hv hc hL ex63 (by omega) (by decide), ?_⟩
  intro x64 ex64
  intro x65 ex65
  refine ⟨sc_in (j := 3) hv hc hL ex65 (by omega) (by decide), ?_⟩
  intro x66 ex66
  intro x67 ex67
  refine ⟨sc_in (j := 4) hv hc hL ex67 (by omega) (by decide), ?_⟩
  intro x68 ex68
  intro x69 ex69
  refine ⟨sc_in (j := 5) hv hc hL ex69 (by omega) (by decide), ?_⟩
  intro x70 ex70
  intro x71 ex71
  refine ⟨sc_in (j := 6) hv hc hL ex71 (by omega) (by decide), ?_⟩
  intro x72 ex72
  intro x73 ex73
  refine ⟨sc_in (j := 7) hv hc hL ex73 (by omega) (by decide), ?_⟩
  intro x74 ex74
  refine ⟨fun c75 => ?_, fun c75 => ?_⟩
  · unfold P_L_law_393
    refine ⟨o1, ?_⟩
    refine ⟨by show _ ≤ 601024; omega, by show _ ≤ 7293034; omega, ?_⟩
    refine mz_X9_face hI o1 (fun x77 S76 hJ g78 fc79 Kg78 nf1 kz => ?_)
    have wr := wr_keep hI o2 wr kz.1 kz.2 fc79 (by decide) (by decide) (by decide)
    have tp := tt_fri tp o1 o2 Kg78 fc79 (by decide) (by decide) (by decide) (by decide)
    have fa := fa_fri fa o1 o2 fc79 (by decide) (by decide)
    have hI := hJ
    have l3 := (gr_len g78 o3).trans l3
    have o1 := gr_ob g78 o1
    have o2 := gr_ob g78 o2
    have o3 := gr_ob g78 o3
    intro _
    intro x80 ex80
    refine ⟨sc_in (j := 1) hv hc hL ex80 (by omega) (by decide), ?_⟩
    intro x81 ex81
    intro x82 ex82
    refine ⟨sc_in (j := 2) hv hc hL ex82 (by omega) (by decide), ?_⟩
    intro x83 ex83
    intro x84 ex84
    refine ⟨sc_in (j := 3) hv hc hL ex84 (by omega) (by decide), ?_⟩
    intro x85 ex85
    intro x86 ex86
    refine ⟨sc_in (j := 4) hv hc hL ex86 (by omega) (by decide), ?_⟩
    intro x87 ex87
    intro x88 ex88
    refine ⟨sc_in (j := 5) hv hc hL ex88 (by omega) (by decide), ?_⟩
    intro x89 ex89
    intro x90 ex90
    refine ⟨sc_in (j := 6) hv hc hL ex90 (by omega) (by decide), ?_⟩
    intro x91 ex91
    intro x92 ex92
    refine ⟨sc_in (j := 7) hv hc hL ex92 (by omega) (by decide), ?_⟩
    intro x93 ex93
    refine ⟨fun c94 => ?_, fun c94 => ?_⟩
    · unfold P_L_law_450
      refine ⟨o2, ?_⟩
      refine ⟨by show _ ≤ 601024; omega, by show _ ≤ 7293034; omega, ?_⟩
      refine mz_X11_face hI o2 (fun x96 S95 hJ g97 fc98 Kg97 nf2 kz => ?_)
      have wr := wr_keep hI o2 wr kz.1 kz.2 fc98 (by decide) (by decide) (by decide)
      have tp := tt_fri tp o1 o2 Kg97 fc98 (by decide) (by decide) (by decide) (by decide)
      have fa := fa_fri fa o1 o2 fc98 (by decide) (by decide)
      have wh := wh_set nf1 fc98 (by decide) nf2
      have hI := hJ
      have l3 := (gr_len g97 o3).trans l3
      have o1 := gr_ob g97 o1
      have o2 := gr_ob g97 o2
      have o3 := gr_ob g97 o3
      intro _
      unfold P_L_law_2341
      intro x99 ex99
      have back := hb x99 ex99
      exact back _ _ _ hI o1 o2 o3 l3 tp fa wh ⟨AA, GG, wr, gb⟩ (by omega) (by omega)
    · unfold P_L_law_450
      refine ⟨o2, ?_⟩
      refine ⟨by show _ ≤ 601024; omega, by show _ ≤ 7293034; omega, ?_⟩
      refine mz_X11_face hI o2 (fun x101 S100 hJ g102 fc103 Kg102 nf2 kz => ?_)
      have wr := wr_keep hI o2 wr kz.1 kz.2 fc103 (by decide) (by decide) (by decide)
      have tp := tt_fri tp o1 o2 Kg102 fc103 (by decide) (by decide) (by decide) (by decide)
      have fa := fa_fri fa o1 o2 fc103 (by decide) (by decide)
      have wh := wh_set nf1 fc103 (by decide) nf2
      have hI := hJ
      have l3 := (gr_len g102 o3).trans l3
      have o1 := gr_ob g102 o1
      have o2 := gr_ob g102 o2
      have o3 := gr_ob g102 o3
      intro _
      unfold P_L_law_2341
      intro x104 ex104
      have back := hb x104 ex104
      exact back _ _ _ hI o1 o2 o3 l3 tp fa wh ⟨AA, GG, wr, gb⟩ (by omega) (by omega)
  · unfold P_L_law_393
    refine ⟨o1, ?_⟩
    refine ⟨by show _ ≤ 601024; omega, by show _ ≤ 7293034; omega, ?_⟩
    refine mz_X9_face hI o1 (fun x106 S105 hJ g107 fc108 Kg107 nf1 kz => ?_)
    have wr := wr_keep hI o2 wr kz.1 kz.2 fc108 (by decide) (by decide) (by decide)
    have tp := tt_fri tp o1 o2 Kg107 fc108 (by decide) (by decide) (by decide) (by decide)
    have fa := fa_fri fa o1 o2 fc108 (by decide) (by decide)
    have hI := hJ
    have l3 := (gr_len g107 o3).trans l3
    have o1 := gr_ob g107 o1
    have o2 := gr_ob g107 o2
    have o3 := gr_ob g107 o3
    intro _
    intro x109 ex109
    refine ⟨sc_in (j := 1) hv hc hL ex109 (by omega) (by decide), ?_⟩
    intro x110 ex110
    intro x111 ex111
    refine ⟨sc_in (j := 2) hv hc hL ex111 (by omega) (by decide), ?_⟩
    intro x112 ex112
    intro x113 ex113
    refine ⟨sc_in (j := 3) hv hc hL ex113 (by omega) (by decide), ?_⟩
    intro x114 ex114
    intro x115 ex115
    refine ⟨sc_in (j := 4) hv hc hL ex115 (by omega) (by decide), ?_⟩
    intro x116 ex116
    intro x117 ex117
    refine ⟨sc_in (j := 5) hv hc hL ex117 (by omega) (by decide), ?_⟩
    intro x118 ex118
    intro x119 ex119
    refine ⟨sc_in (j := 6) hv hc hL ex119 (by omega) (by decide), ?_⟩
    intro x120 ex120
    intro x121 ex121
    refine ⟨sc_in (j := 7) hv hc hL ex121 (by omega) (by decide), ?_⟩
    intro x122 ex122
    refine ⟨fun c123 => ?_, fun c123 => ?_⟩
    · unfold P_L_law_450
      refine ⟨o2, ?_⟩
      refine ⟨by show _ ≤ 601024; omega, by show _ ≤ 7293034; omega, ?_⟩
      refine mz_X11_face hI o2 (fun x125 S124 hJ g126 fc127 Kg126 nf2 kz => ?_)
      have wr := wr_keep hI o2 wr kz.1 kz.2 fc127 (by decide) (by decide) (by decide)
      have tp := tt_fri tp o1 o2 Kg126 fc127 (by decide) (by decide) (by decide) (by decide)
      have fa := fa_fri fa o1 o2 fc127 (by decide) (by decide)
      have wh := wh_set nf1 fc127 (by decide) nf2
      have hI := hJ
      have l3 := (gr_len g126 o3).trans l3
      have o1 := gr_ob g126 o1
      have o2 := gr_ob g126 o2
      have o3 := gr_ob g126 o3
      intro _
      unfold P_L_law_2341
      intro x128 ex128
      have back := hb x128 ex128
      exact back _ _ _ hI o1 o2 o3 l3 tp fa wh ⟨AA, GG, wr, gb⟩ (by omega) (by omega)
    · unfold P_L_law_450
      refine ⟨o2, ?_⟩
      refine ⟨by show _ ≤ 601024; omega, by show _ ≤ 7293034; omega, ?_⟩
      refine mz_X11_face hI o2 (fun x130 S129 hJ g131 fc132 Kg131 nf2 kz => ?_)
      have wr := wr_keep hI o2 wr kz.1 kz.2 fc132 (by decide) (by decide) (by decide)
      have tp := tt_fri tp o1 o2 Kg131 fc132 (by decide) (by decide) (by decide) (by decide)
      have fa := fa_fri fa o1 o2 fc132 (by decide) (by decide)
      have wh := wh_set nf1 fc132 (by decide) nf2
      have hI := hJ
      have l3 := (gr_len g131 o3).trans l3
      have o1 := gr_ob g131 o1
      have o2 := gr_ob g131 o2
      have o3 := gr_ob g131 o3
      intro _
      unfold P_L_law_2341
      intro x133 ex133
      have back := hb x133 ex133
      exact back _ _ _ hI o1 o2 o3 l3 tp fa wh ⟨AA, GG, wr, gb⟩ (by omega) (by omega)
set_option maxHeartbeats 4000000 in
set_option maxRecDepth 20000 in
theorem a_L_law_457 {scL : Nat} {scx : Nat → Int32} {Q : Int32 → HS → Prop} {X23 : Nat → Nat → Nat → Int32 → Nat → Nat → HS → Prop} {v1 v2 v3 : Nat} {v4 : Int32} {kk nn : Nat} {S : HS} {c : Nat} (hL : scL ≤ 4096) (hc : 8 * c + 8 ≤ scL) (hb : ∀ x : Int32, x = v4 + (8 : Int32) → ∀ (kk nn : Nat) (T : HS), IV T → ob T v1 9 → ob T v2 11 → ob T v3 14 → hN T v3 = 1 → TT v1 v2 T → fI T v1 7 = fI T v2 13 → WH v1 v2 T → WRy v1 v2 T → kk ≤ 200 + 35 * (c + 1) → nn ≤ 13000 + 8200 * (c + 1) → X23 v1 v2 v3 x kk nn T) (h : LI v1 v2 v3 v4 kk nn S c) : P_L_law_457 scL scx Q X23 v1 v2 v3 v4 kk nn S := by
  obtain ⟨hI, o1, o2, o3, l3, tp, fa, wh, wr, hv, hk, hn⟩ := h
  obtain ⟨AA, GG, wr, gb⟩ := wr
  unfold P_L_law_457
  intro x134 ex134
  refine ⟨sc_in (j := 1) hv hc hL ex134 (by omega) (by decide), ?_⟩
  intro x135 ex135
  intro x136 ex136
  refine ⟨sc_in (j := 2) hv hc hL ex136 (by omega) (by decide), ?_⟩
  intro x137 ex137
  intro x138 ex138
  refine ⟨sc_in (j := 3) hv hc hL ex138 (by omega) (by decide), ?_⟩
  intro x139 ex139
  intro x140 ex140
  refine ⟨sc_in (j := 4) hv hc hL ex140 (by omega) (by decide), ?_⟩
  intro x141 ex141
  intro x142 ex142
  refine ⟨sc_in (j := 5) hv hc hL ex142 (by omega) (by decide), ?_⟩
  intro x143 ex143
  intro x144 ex144
  refine ⟨sc_in (j := 6) hv hc hL ex144 (by omega) (by decide), ?_⟩
  intro x145 ex145
  refine ⟨fun c146 => ?_, fun c146 => ?_⟩
  · unfold P_L_law_503
    refine ⟨o1, ?_⟩
    refine ⟨by show _ ≤ 601024; omega, by show _ ≤ 7293034; omega, ?_⟩
    refine mz_X9_wet hI o1 (fun x148 S147 hJ g149 fc150 Kg149 nf1 kz => ?_)
    have wr := wr_keep hI o2 wr kz.1 kz.2 fc150 (by decide) (by decide) (by decide)
    have tp := tt_fri tp o1 o2 Kg149 fc150 (by decide) (by decide) (by decide) (by decide)
    have fa := fa_fri fa o1 o2 fc150 (by decide) (by decide)
    have hI := hJ
    have l3 := (gr_len g149 o3).trans l3
    have o1 := gr_ob g149 o1
    have o2 := gr_ob g149 o2
    have o3 := gr_ob g149 o3
    intro _
    intro x151 ex151
    refine ⟨sc_in (j := 1) hv hc hL ex151 (by omega) (by decide), ?_⟩
    intro x152 ex152
    intro x153 ex153
    refine ⟨sc_in (j := 2) hv hc hL ex153 (by omega) (by decide), ?_⟩
    intro x154 ex154
    intro x155 ex155
    refine ⟨sc_in (j := 3) hv hc hL ex155 (by omega) (by decide), ?_⟩
    intro x156 ex156
    intro x157 ex157
    refine ⟨sc_in (j := 4) hv hc hL ex157 (by omega) (by decide), ?_⟩
    intro x158 ex158
    intro x159 ex159
    refine ⟨sc_in (j := 5) hv hc hL ex159 (by omega) (by decide), ?_⟩
    intro x160 ex160
    intro x161 ex161
    refine ⟨sc_in (j := 6) hv hc hL ex161 (by omega) (by decide), ?_⟩
    intro x162 ex162
    refine ⟨fun c163 => ?_, fun c163 => ?_⟩
    · unfold P_L_law_553
      refine ⟨o2, ?_⟩
      refine ⟨by show _ ≤ 601024; omega, by show _ ≤ 7293034; omega, ?_⟩
      refine mz_X11_wet hI o2 (fun x165 S164 hJ g166 fc167 Kg166 nf2 kz => ?_)
      have wr := wr_keep hI o2 wr kz.1 kz.2 fc167 (by decide) (by decide) (by decide)
      have tp := tt_fri tp o1 o2 Kg166 fc167 (by decide) (by decide) (by decide) (by decide)
      have fa := fa_fri fa o1 o2 fc167 (by decide) (by decide)
      have wh := wh_set nf1 fc167 (by decide) nf2
      have hI := hJ
      have l3 := (gr_len g166 o3).trans l3
      have o1 := gr_ob g166 o1
      have o2 := gr_ob g166 o2
      have o3 := gr_ob g166 o3
      intro _
      unfold P_L_law_2341
      intro x168 ex168
      have back := hb x168 ex168
      exact back _ _ _ hI o1 o2 o3 l3 tp fa wh ⟨AA, GG, wr, gb⟩ (by omega) (by omega)
    · unfold P_L_law_553
      refine ⟨o2, ?_⟩
      refine ⟨by show _ ≤ 601024; omega, by show _ ≤ 7293034; omega, ?_⟩
      refine mz_X11_wet hI o2 (fun x170 S169 hJ g171 fc172 Kg171 nf2 kz => ?_)
      have wr := wr_keep hI o2 wr kz.1 kz.2 fc172 (by decide) (by decide) (by decide)
      have tp := tt_fri tp o1 o2 Kg171 fc172 (by decide) (by decide) (by decide) (by decide)
      have fa := fa_fri fa o1 o2 fc172 (by decide) (by decide)
      have wh := wh_set nf1 fc172 (by decide) nf2
      have hI := hJ
      have l3 := (gr_len g171 o3).trans l3
      have o1 := gr_ob g171 o1
      have o2 := gr_ob g171 o2
      have o3 := gr_ob g171 o3
      intro _
      unfold P_L_law_2341
      intro x173 ex173
      have back := hb x173 ex173
      exact back _ _ _ hI o1 o2 o3 l3 tp fa wh ⟨AA, GG, wr, gb⟩ (by omega) (by omega)
  · unfold P_L_law_503
    refine ⟨o1, ?_⟩
    refine ⟨by show _ ≤ 601024; omega, by show _ ≤ 7293034; omega, ?_⟩
    refine mz_X9_wet hI o1 (fun x175 S174 hJ g176 fc177 Kg176 nf1 kz => ?_)
    have wr := wr_keep hI o2 wr kz.1 kz.2 fc177 (by decide) (by decide) (by decide)
    have tp := tt_fri tp o1 o2 Kg176 fc177 (by decide) (by decide) (by decide) (by decide)
    have fa := fa_fri fa o1 o2 fc177 (by decide) (by decide)
    have hI := hJ
    have l3 := (gr_len g176 o3).trans l3
    have o1 := gr_ob g176 o1
    have o2 := gr_ob g176 o2
    have o3 := gr_ob g176 o3
    intro _
    intro x178 ex178
    refine ⟨sc_in (j := 1) hv hc hL ex178 (by omega) (by decide), ?_⟩
    intro x179 ex179
    intro x180 ex180
    refine ⟨sc_in (j := 2) hv hc hL ex180 (by omega) (by decide), ?_⟩
    intro x181 ex181
    intro x182 ex182
    refine ⟨sc_in (j := 3) hv hc hL ex182 (by omega) (by decide), ?_⟩
    intro x183 ex183
    intro x184 ex184
    refine ⟨sc_in (j := 4) hv hc hL ex184 (by omega) (by decide), ?_⟩
    intro x185 ex185
    intro x186 ex186
    refine ⟨sc_in (j := 5) hv hc hL ex186 (by omega) (by decide), ?_⟩
    intro x187 ex187
    intro x188 ex188
    refine ⟨sc_in (j := 6) hv hc hL ex188 (by omega) (by decide), ?_⟩
    intro x189 ex189
    refine ⟨fun c190 => ?_, fun c190 => ?_⟩
    · unfold P_L_law_553
      refine ⟨o2, ?_⟩
      refine ⟨by show _ ≤ 601024; omega, by show _ ≤ 7293034; omega, ?_⟩
      refine mz_X11_wet hI o2 (fun x192 S191 hJ g193 fc194 Kg193 nf2 kz => ?_)
      have wr := wr_keep hI o2 wr kz.1 kz.2 fc194 (by decide) (by decide) (by decide)
      have tp := tt_fri tp o1 o2 Kg193 fc194 (by decide) (by decide) (by decide) (by decide)
      have fa := fa_fri fa o1 o2 fc194 (by decide) (by decide)
      have wh := wh_set nf1 fc194 (by decide) nf2
      have hI := hJ
      have l3 := (gr_len g193 o3).trans l3
      have o1 := gr_ob g193 o1
      have o2 := gr_ob g193 o2
      have o3 := gr_ob g193 o3
      intro _
      unfold P_L_law_2341
      intro x195 ex195
      have back := hb x195 ex195
      exact back _ _ _ hI o1 o2 o3 l3 tp fa wh ⟨AA, GG, wr, gb⟩ (by omega) (by omega)
    · unfold P_L_law_553
      refine ⟨o2, ?_⟩
      refine ⟨by show _ ≤ 601024; omega, by show _ ≤ 7293034; omega, ?_⟩
      refine mz_X11_wet hI o2 (fun x197 S196 hJ g198 fc199 Kg198 nf2 kz => ?_)
      have wr := wr_keep hI o2 wr kz.1 kz.2 fc199 (by decide) (by decide) (by decide)
      have tp := tt_fri tp o1 o2 Kg198 fc199 (by decide) (by decide) (by decide) (by decide)
      have fa := fa_fri fa o1 o2 fc199 (by decide) (by decide)
      have wh := wh_set nf1 fc199 (by decide) nf2
      have hI := hJ
      have l3 := (gr_len g198 o3).trans l3
      have o1 := gr_ob g198 o1
      have o2 := gr_ob g198 o2
      have o3 := gr_ob g198 o3
      intro _
      unfold P_L_law_2341
      intro x200 ex200
      have back := hb x200 ex200
      exact back _ _ _ hI o1 o2 o3 l3 tp fa wh ⟨AA, GG, wr, gb⟩ (by omega) (by omega)
set_option maxHeartbeats 4000000 in
set_option maxRecDepth 20000 in
theorem a_L_law_560 {scL : Nat} {scx : Nat → Int32} {Q : Int32 → HS → Prop} {X23 : Nat → Nat → Nat → Int32 → Nat → Nat → HS → Prop} {v1 v2 v3 : Nat} {v4 : Int32} {kk nn : Nat} {S : HS} {c : Nat} (hL : scL ≤ 4096) (hc : 8 * c + 8 ≤ scL) (hb : ∀ x : Int32, x = v4 + (8 : Int32) → ∀ (kk nn : Nat) (T : HS), IV T → ob T v1 9 → ob T v2 11 → ob T v3 14 → hN T v3 = 1 → TT v1 v2 T → fI T v1 7 = fI T v2 13 → WH v1 v2 T → WRy v1 v2 T → kk ≤ 200 + 35 * (c + 1) → nn ≤ 13000 + 8200 * (c + 1) → X23 v1 v2 v3 x kk nn T) (h : LI v1 v2 v3 v4 kk nn S c) : P_L_law_560 scL scx Q X23 v1 v2 v3 v4 kk nn S := by
  obtain ⟨hI, o1, o2, o3, l3, tp, fa, wh, wr, hv, hk, hn⟩ := h
  obtain ⟨AA, GG, wr, gb⟩ := wr
  unfold P_L_law_560
  intro x201 ex201
  refine ⟨sc_in (j := 1) hv hc hL ex201 (by omega) (by decide), ?_⟩
  intro x202 ex202
  intro x203 ex203
  refine ⟨sc_in (j := 2) hv hc hL ex203 (by omega) (by decide), ?_⟩
  intro x204 ex204
  intro x205 ex205
  refine ⟨sc_in (j := 3) hv hc hL ex205 (by omega) (by decide), ?_⟩
  intro x206 ex206
  intro x207 ex207
  refine ⟨sc_in (j := 4) hv hc hL ex207 (by omega) (by decide), ?_⟩
  intro x208 ex208
  intro x209 ex209
  refine ⟨sc_in (j := 5) hv hc hL ex209 (by omega) (by decide), ?_⟩
  intro x210 ex210
  intro x211 ex211
  refine ⟨sc_in (j := 6) hv hc hL ex211 (by omega) (by decide), ?_⟩
  intro x212 ex212
  refine ⟨fun c213 => ?_, fun c213 => ?_⟩
  · unfold P_L_law_606
    refine ⟨o1, ?_⟩
    refine ⟨by show _ ≤ 601024; omega, by show _ ≤ 7293034; omega, ?_⟩
    refine mz_X9_mean hI o1 (fun x215 S214 hJ g216 fc217 Kg216 nf1 kz => ?_)
    have wr := wr_keep hI o2 wr kz.1 kz.2 fc217 (by decide) (by decide) (by decide)
    have tp := tt_fri tp o1 o2 Kg216 fc217 (by decide) (by decide) (by decide) (by decide)
    have fa := fa_fri fa o1 o2 fc217 (by decide) (by decide)
    have hI := hJ
    have l3 := (gr_len g216 o3).trans l3
    have o1 := gr_ob g216 o1
    have o2 := gr_ob g216 o2
    have o3 := gr_ob g216 o3
    intro _
    intro x218 ex218
    refine ⟨sc_in (j := 1) hv hc hL ex218 (by omega) (by decide), ?_⟩
    intro x219 ex219
    intro x220 ex220
    refine ⟨sc_in (j := 2) hv hc hL ex220 (by omega) (by decide), ?_⟩
    intro x221 ex221
    intro x222 ex222
    refine ⟨sc_in (j := 3) hv hc hL ex222 (by omega) (by decide), ?_⟩
    intro x223 ex223
    intro x224 ex224
    refine ⟨sc_in (j := 4) hv hc hL ex224 (by omega) (by decide), ?_⟩
    intro x225 ex225
    intro x226 ex226
    refine ⟨sc_in (j := 5) hv hc hL ex226 (by omega) (by decide), ?_⟩
    intro x227 ex227
    intro x228 ex228
    refine ⟨sc_in (j := 6) hv hc hL ex228 (by omega) (by decide), ?_⟩
    intro x229 ex229
    refine ⟨fun c230 => ?_, fun c230 => ?_⟩
    · unfold P_L_law_656
      refine ⟨o2, ?_⟩
      refine ⟨by show _ ≤ 601024; omega, by show _ ≤ 7293034; omega, ?_⟩
      refine mz_X11_mean hI o2 (fun x232 S231 hJ g233 fc234 Kg233 nf2 kz => ?_)
      have wr := wr_keep hI o2 wr kz.1 kz.2 fc234 (by decide) (by decide) (by decide)
      have tp := tt_fri tp o1 o2 Kg233 fc234 (by decide) (by decide) (by decide) (by decide)
      have fa := fa_fri fa o1 o2 fc234 (by decide) (by decide)
      have wh := wh_set nf1 fc234 (by decide) nf2
      have hI := hJ
      have l3 := (gr_len g233 o3).trans l3
      have o1 := gr_ob g233 o1
      have o2 := gr_ob g233 o2
      have o3 := gr_ob g233 o3
      intro _
      unfold P_L_law_2341
      intro x235 ex235
      have back := hb x235 ex235
      exact back _ _ _ hI o1 o2 o3 l3 tp fa wh ⟨AA, GG, wr, gb⟩ (by omega) (by omega)
    · unfold P_L_law_656
      refine ⟨o2, ?_⟩
      refine ⟨by show _ ≤ 601024; omega, by show _ ≤ 7293034; omega, ?_⟩
      refine mz_X11_mean hI o2 (fun x237 S236 hJ g238 fc239 Kg238 nf2 kz => ?_)
      have wr := wr_keep hI o2 wr kz.1 kz.2 fc239 (by decide) (by decide) (by decide)
      have tp := tt_fri tp o1 o2 Kg238 fc239 (by decide) (by decide) (by decide) (by decide)
      have fa := fa_fri fa o1 o2 fc239 (by decide) (by decide)
      have wh := wh_set nf1 fc239 (by decide) nf2
      have hI := hJ
      have l3 := (gr_len g238 o3).trans l3
      have o1 := gr_ob g238 o1
      have o2 := gr_ob g238 o2
      have o3 := gr_ob g238 o3
      intro _
      unfold P_L_law_2341
      intro x240 ex240
      have back := hb x240 ex240
      exact back _ _ _ hI o1 o2 o3 l3 tp fa wh ⟨AA, GG, wr, gb⟩ (by omega) (by omega)
  · unfold P_L_law_606
    refine ⟨o1, ?_⟩
    refine ⟨by show _ ≤ 601024; omega, by show _ ≤ 7293034; omega, ?_⟩
    refine mz_X9_mean hI o1 (fun x242 S241 hJ g243 fc244 Kg243 nf1 kz => ?_)
    have wr := wr_keep hI o2 wr kz.1 kz.2 fc244 (by decide) (by decide) (by decide)
    have tp := tt_fri tp o1 o2 Kg243 fc244 (by decide) (by decide) (by decide) (by decide)
    have fa := fa_fri fa o1 o2 fc244 (by decide) (by decide)
    have hI := hJ
    have l3 := (gr_len g243 o3).trans l3
    have o1 := gr_ob g243 o1
    have o2 := gr_ob g243 o2
    have o3 := gr_ob g243 o3
    intro _
    intro x245 ex245
    refine ⟨sc_in (j := 1) hv hc hL ex245 (by omega) (by decide), ?_⟩
    intro x246 ex246
    intro x247 ex247
    refine ⟨sc_in (j := 2) hv hc hL ex247 (by omega) (by decide), ?_⟩
    intro x248 ex248
    intro x249 ex249
    refine ⟨sc_in (j := 3) hv hc hL ex249 (by omega) (by decide), ?_⟩
    intro x250 ex250
    intro x251 ex251
    refine ⟨sc_in (j := 4) hv hc hL ex251 (by omega) (by decide), ?_⟩
    intro x252 ex252
    intro x253 ex253
    refine ⟨sc_in (j := 5) hv hc hL ex253 (by omega) (by decide), ?_⟩
    intro x254 ex254
    intro x255 ex255
    refine ⟨sc_in (j := 6) hv hc hL ex255 (by omega) (by decide), ?_⟩
    intro x256 ex256
    refine ⟨fun c257 => ?_, fun c257 => ?_⟩
    · unfold P_L_law_656
      refine ⟨o2, ?_⟩
      refine ⟨by show _ ≤ 601024; omega, by show _ ≤ 7293034; omega, ?_⟩
      refine mz_X11_mean hI o2 (fun x259 S258 hJ g260 fc261 Kg260 nf2 kz => ?_)
      have wr := wr_keep hI o2 wr kz.1 kz.2 fc261 (by decide) (by decide) (by decide)
      have tp := tt_fri tp o1 o2 Kg260 fc261 (by decide) (by decide) (by decide) (by decide)
      have fa := fa_fri fa o1 o2 fc261 (by decide) (by decide)
      have wh := wh_set nf1 fc261 (by decide) nf2
      have hI := hJ
      have l3 := (gr_len g260 o3).trans l3
      have o1 := gr_ob g260 o1
      have o2 := gr_ob g260 o2
      have o3 := gr_ob g260 o3
      intro _
      unfold P_L_law_2341
      intro x262 ex262
      have back := hb x262 ex262
      exact back _ _ _ hI o1 o2 o3 l3 tp fa wh ⟨AA, GG, wr, gb⟩ (by omega) (by omega)
    · unfold P_L_law_656
      refine ⟨o2, ?_⟩
      refine ⟨by show _ ≤ 601024; omega, by show _ ≤ 7293034; omega, ?_⟩
      refine mz_X11_mean hI o2 (fun x264 S263 hJ g265 fc266 Kg265 nf2 kz => ?_)
      have wr := wr_keep hI o2 wr kz.1 kz.2 fc266 (by decide) (by decide) (by decide)
      have tp := tt_fri tp o1 o2 Kg265 fc266 (by decide) (by decide) (by decide) (by decide)
      have fa := fa_fri fa o1 o2 fc266 (by decide) (by decide)
      have wh := wh_set nf1 fc266 (by decide) nf2
      have hI := hJ
      have l3 := (gr_len g265 o3).trans l3
      have o1 := gr_ob g265 o1
      have o2 := gr_ob g265 o2
      have o3 := gr_ob g265 o3
      intro _
      unfold P_L_law_2341
      intro x267 ex267
      have back := hb x267 ex267
      exact back _ _ _ hI o1 o2 o3 l3 tp fa wh ⟨AA, GG, wr, gb⟩ (by omega) (by omega)
set_option maxHeartbeats 4000000 in
set_option maxRecDepth 20000 in
theorem a_L_law_663 {scL : Nat} {scx : Nat → Int32} {Q : Int32 → HS → Prop} {X23 : Nat → Nat → Nat → Int32 → Nat → Nat → HS → Prop} {v1 v2 v3 : Nat} {v4 : Int32} {kk nn : Nat} {S : HS} {c : Nat} (hL : scL ≤ 4096) (hc : 8 * c + 8 ≤ scL) (hb : ∀ x : Int32, x = v4 + (8 : Int32) → ∀ (kk nn : Nat) (T : HS), IV T → ob T v1 9 → ob T v2 11 → ob T v3 14 → hN T v3 = 1 → TT v1 v2 T → fI T v1 7 = fI T v2 13 → WH v1 v2 T → WRy v1 v2 T → kk ≤ 200 + 35 * (c + 1) → nn ≤ 13000 + 8200 * (c + 1) → X23 v1 v2 v3 x kk nn T) (h : LI v1 v2 v3 v4 kk nn S c) : P_L_law_663 scL scx Q X23 v1 v2 v3 v4 kk nn S := by
  obtain ⟨hI, o1, o2, o3, l3, tp, fa, wh, wr, hv, hk, hn⟩ := h
  obtain ⟨AA, GG, wr, gb⟩ := wr
  unfold P_L_law_663
  intro x268 ex268
  refine ⟨sc_in (j := 1) hv hc hL ex268 (by omega) (by decide), ?_⟩
  intro x269 ex269
  intro x270 ex270
  refine ⟨sc_in (j := 2) hv hc hL ex270 (by omega) (by decide), ?_⟩
  intro x271 ex271
  intro x272 ex272
  refine ⟨sc_in (j := 3) hv hc hL ex272 (by omega) (by decide), ?_⟩
  intro x273 ex273
  refine ⟨o1, ?_⟩
  refine ⟨by show _ ≤ 601024; omega, by show _ ≤ 7293034; omega, ?_⟩
  have wr0 := wr
  obtain ⟨r9, w9, u9, J9, h91, h92, h93, h94⟩ := wr0
  refine mt_X9_minutes hI o1 J9 h91 h92 h93 gb (fun x275 S274 hJ g276 fc277 Kg276 nf1 tz1 => ?_)
  have kz := tz1.1
  have wr := wr_keep hI o2 wr kz.1 kz.2 fc277 (by decide) (by decide) (by decide)
  have tp := tt_fri tp o1 o2 Kg276 fc277 (by decide) (by decide) (by decide) (by decide)
  have fa := fa_fri fa o1 o2 fc277 (by decide) (by decide)
  have hI := hJ
  have l3 := (gr_len g276 o3).trans l3
  have o1 := gr_ob g276 o1
  have o2 := gr_ob g276 o2
  have o3 := gr_ob g276 o3
  intro _
  intro x278 ex278
  refine ⟨sc_in (j := 1) hv hc hL ex278 (by omega) (by decide), ?_⟩
  intro x279 ex279
  intro x280 ex280
  refine ⟨sc_in (j := 2) hv hc hL ex280 (by omega) (by decide), ?_⟩
  intro x281 ex281
  intro x282 ex282
  refine ⟨sc_in (j := 3) hv hc hL ex282 (by omega) (by decide), ?_⟩
  intro x283 ex283
  refine ⟨o2, ?_⟩
  refine ⟨by show _ ≤ 601024; omega, by show _ ≤ 7293034; omega, ?_⟩
  have wr0 := wr
  obtain ⟨-, -, -, -, -, -, ab9, hm9⟩ := wr0
  refine mt_X11_minutes hI o2 hm9 ab9 gb (fun x285 S284 hJ g286 fc287 Kg286 nf2 tz2 => ?_)
  have kz := tz2.1
  have fe := tz1.2.trans (Eq.symm (by subst_vars; exact tz2.2))
  have wr := wr_keep hI o2 wr kz.1 kz.2 fc287 (by decide) (by decide) (by decide)
  have tp := tt_fri tp o1 o2 Kg286 fc287 (by decide) (by decide) (by decide) (by decide)
  have fa := fa_fri fa o1 o2 fc287 (by decide) (by decide)
  have wh := wh_set nf1 fc287 (by decide) nf2
  have hI := hJ
  have l3 := (gr_len g286 o3).trans l3
  have o1 := gr_ob g286 o1
  have o2 := gr_ob g286 o2
  have o3 := gr_ob g286 o3
  intro _
  unfold P_L_law_2341
  intro x288 ex288
  have back := hb x288 ex288
  exact back _ _ _ hI o1 o2 o3 l3 tp fa wh ⟨AA, GG, wr, gb⟩ (by omega) (by omega)
set_option maxHeartbeats 4000000 in
set_option maxRecDepth 20000 in
theorem a_L_law_712 {scL : Nat} {scx : Nat → Int32} {Q : Int32 → HS → Prop} {X23 : Nat → Nat → Nat → Int32 → Nat → Nat → HS → Prop} {v1 v2 v3 : Nat} {v4 : Int32} {kk nn : Nat} {S : HS} {c : Nat} (hL : scL ≤ 4096) (hc : 8 * c + 8 ≤ scL) (hb : ∀ x : Int32, x = v4 + (8 : Int32) → ∀ (kk nn : Nat) (T : HS), IV T → ob T v1 9 → ob T v2 11 → ob T v3 14 → hN T v3 = 1 → TT v1 v2 T → fI T v1 7 = fI T v2 13 → WH v1 v2 T → WRy v1 v2 T → kk ≤ 200 + 35 * (c + 1) → nn ≤ 13000 + 8200 * (c + 1) → X23 v1 v2 v3 x kk nn T) (h : LI v1 v2 v3 v4 kk nn S c) : P_L_law_712 scL scx Q X23 v1 v2 v3 v4 kk nn S := by
  obtain ⟨hI, o1, o2, o3, l3, tp, fa, wh, wr, hv, hk, hn⟩ := h
  obtain ⟨AA, GG, wr, gb⟩ := wr
  unfold P_L_law_712
  intro x289 ex289
  refine ⟨sc_in (j := 1) hv hc hL ex289 (by omega) (by decide), ?_⟩
  intro x290 ex290
  intro x291 ex291
  refine ⟨sc_in (j := 2) hv hc hL ex291 (by omega) (by decide), ?_⟩
  intro x292 ex292
  intro x293 ex293
  refine ⟨sc_in (j := 3) hv hc hL ex293 (by omega) (by decide), ?_⟩
  intro x294 ex294
  refine ⟨o1, ?_⟩
  refine ⟨by show _ ≤ 601024; omega, by show _ ≤ 7293034; omega, ?_⟩
  have wr0 := wr
  obtain ⟨r9, w9, u9, J9, h91, h92, h93, h94⟩ := wr0
  refine mt_X9_air hI o1 J9 h91 h92 h93 gb (fun x296 S295 hJ g297 fc298 Kg297 nf1 tz1 => ?_)
  have kz := tz1.1
  have wr := wr_keep hI o2 wr kz.1 kz.2 fc298 (by decide) (by decide) (by decide)
  have tp := tt_fri tp o1 o2 Kg297 fc298 (by decide) (by decide) (by decide) (by decide)
  have fa := fa_fri fa o1 o2 fc298 (by decide) (by decide)
  have hI := hJ
  have l3 := (gr_len g297 o3).trans l3
  have o1 := gr_ob g297 o1
  have o2 := gr_ob g297 o2
  have o3 := gr_ob g297 o3
  intro _
  intro x299 ex299
  refine ⟨sc_in (j := 1) hv hc hL ex299 (by omega) (by decide), ?_⟩
  intro x300 ex300
  intro x301 ex301
  refine ⟨sc_in (j := 2) hv hc hL ex301 (by omega) (by decide), ?_⟩
  intro x302 ex302
  intro x303 ex303
  refine ⟨sc_in (j := 3) hv hc hL ex303 (by omega) (by decide), ?_⟩
  intro x304 ex304
  refine ⟨o2, ?_⟩
  refine ⟨by show _ ≤ 601024; omega, by show _ ≤ 7293034; omega, ?_⟩
  have wr0 := wr
  obtain ⟨-, -, -, -, -, -, ab9, hm9⟩ := wr0
  refine mt_X11_air hI o2 hm9 ab9 gb (fun x306 S305 hJ g307 fc308 Kg307 nf2 tz2 => ?_)
  have kz := tz2.1
  have fe := tz1.2.trans (Eq.symm (by subst_vars; exact tz2.2))
  have wr := wr_keep hI o2 wr kz.1 kz.2 fc308 (by decide) (by decide) (by decide)
  have tp := tt_fri tp o1 o2 Kg307 fc308 (by decide) (by decide) (by decide) (by decide)
  have fa := fa_fri fa o1 o2 fc308 (by decide) (by decide)
  have wh := wh_set nf1 fc308 (by decide) nf2
  have hI := hJ
  have l3 := (gr_len g307 o3).trans l3
  have o1 := gr_ob g307 o1
  have o2 := gr_ob g307 o2
  have o3 := gr_ob g307 o3
  intro _
  unfold P_L_law_2341
  intro x309 ex309
  have back := hb x309 ex309
  exact back _ _ _ hI o1 o2 o3 l3 tp fa wh ⟨AA, GG, wr, gb⟩ (by omega) (by omega)
set_option maxHeartbeats 4000000 in
set_option maxRecDepth 20000 in
theorem a_L_law_761 {scL : Nat} {scx : Nat → Int32} {Q : Int32 → HS → Prop} {X23 : Nat → Nat → Nat → Int32 → Nat → Nat → HS → Prop} {v1 v2 v3 : Nat} {v4 : Int32} {kk nn : Nat} {S : HS} {c : Nat} (hL : scL ≤ 4096) (hc : 8 * c + 8 ≤ scL) (hb : ∀ x : Int32, x = v4 + (8 : Int32) → ∀ (kk nn : Nat) (T : HS), IV T → ob T v1 9 → ob T v2 11 → ob T v3 14 → hN T v3 = 1 → TT v1 v2 T → fI T v1 7 = fI T v2 13 → WH v1 v2 T → WRy v1 v2 T → kk ≤ 200 + 35 * (c + 1) → nn ≤ 13000 + 8200 * (c + 1) → X23 v1 v2 v3 x kk nn T) (h : LI v1 v2 v3 v4 kk nn S c) : P_L_law_761 scL scx Q X23 v1 v2 v3 v4 kk nn S := by
  obtain ⟨hI, o1, o2, o3, l3, tp, fa, wh, wr, hv, hk, hn⟩ := h
  obtain ⟨AA, GG, wr, gb⟩ := wr
  unfold P_L_law_761
  intro x310 ex310
  refine ⟨sc_in (j := 1) hv hc hL ex310 (by omega) (by decide), ?_⟩
  intro x311 ex311
  intro x312 ex312
  refine ⟨sc_in (j := 2) hv hc hL ex312 (by omega) (by decide), ?_⟩
  intro x313 ex313
  intro x314 ex314
  refine ⟨sc_in (j := 3) hv hc hL ex314 (by omega) (by decide), ?_⟩
  intro x315 ex315
  intro x316 ex316
  refine ⟨sc_in (j := 4) hv hc hL ex316 (by omega) (by decide), ?_⟩
  intro x317 ex317
  intro x318 ex318
  refine ⟨sc_in (j := 5) hv hc hL ex318 (by omega) (by decide), ?_⟩
  intro x319 ex319
  refine ⟨o1, ?_⟩
  refine ⟨by show _ ≤ 601024; omega, by show _ ≤ 7293034; omega, ?_⟩
  refine mz_X9_held hI o1 (fun x321 S320 hJ g322 fc323 Kg322 nf1 kz => ?_)
  have wr := wr_keep hI o2 wr kz.1 kz.2 fc323 (by decide) (by decide) (by decide)
  have tp := tt_fri tp o1 o2 Kg322 fc323 (by decide) (by decide) (by decide) (by decide)
  have fa := fa_fri fa o1 o2 fc323 (by decide) (by decide)
  have hI := hJ
  have l3 := (gr_len g322 o3).trans l3
  have o1 := gr_ob g322 o1
  have o2 := gr_ob g322 o2
  have o3 := gr_ob g322 o3
  intro _
  intro x324 ex324
  refine ⟨sc_in (j := 1) hv hc hL ex324 (by omega) (by decide), ?_⟩
  intro x325 ex325
  intro x326 ex326
  refine ⟨sc_in (j := 2) hv hc hL ex326 (by omega) (by decide), ?_⟩
  intro x327 ex327
  intro x328 ex328
  refine ⟨sc_in (j := 3) hv hc hL ex328 (by omega) (by decide), ?_⟩
  intro x329 ex329
  intro x330 ex330
  refine ⟨sc_in (j := 4) hv hc hL ex330 (by omega) (by decide), ?_⟩
  intro x331 ex331
  intro x332 ex332
  refine ⟨sc_in (j := 5) hv hc hL ex332 (by omega) (by decide), ?_⟩
  intro x333 ex333
  refine ⟨o2, ?_⟩
  refine ⟨by show _ ≤ 601024; omega, by show _ ≤ 7293034; omega, ?_⟩
  refine mz_X11_held hI o2 (fun x335 S334 hJ g336 fc337 Kg336 nf2 kz => ?_)
  have wr := wr_keep hI o2 wr kz.1 kz.2 fc337 (by decide) (by decide) (by decide)
  have tp := tt_fri tp o1 o2 Kg336 fc337 (by decide) (by decide) (by decide) (by decide)
  have fa := fa_fri fa o1 o2 fc337 (by decide) (by decide)
  have wh := wh_set nf1 fc337 (by decide) nf2
  have hI := hJ
  have l3 := (gr_len g336 o3).trans l3
  have o1 := gr_ob g336 o1
  have o2 := gr_ob g336 o2
  have o3 := gr_ob g336 o3
  intro _
  unfold P_L_law_2341
  intro x338 ex338
  have back := hb x338 ex338
  exact back _ _ _ hI o1 o2 o3 l3 tp fa wh ⟨AA, GG, wr, gb⟩ (by omega) (by omega)
set_option maxHeartbeats 4000000 in
set_option maxRecDepth 20000 in
theorem a_L_law_834 {scL : Nat} {scx : Nat → Int32} {Q : Int32 → HS → Prop} {X23 : Nat → Nat → Nat → Int32 → Nat → Nat → HS → Prop} {v1 v2 v3 : Nat} {v4 : Int32} {kk nn : Nat} {S : HS} {c : Nat} (hL : scL ≤ 4096) (hc : 8 * c + 8 ≤ scL) (hb : ∀ x : Int32, x = v4 + (8 : Int32) → ∀ (kk nn : Nat) (T : HS), IV T → ob T v1 9 → ob T v2 11 → ob T v3 14 → hN T v3 = 1 → TT v1 v2 T → fI T v1 7 = fI T v2 13 → WH v1 v2 T → WRy v1 v2 T → kk ≤ 200 + 35 * (c + 1) → nn ≤ 13000 + 8200 * (c + 1) → X23 v1 v2 v3 x kk nn T) (h : LI v1 v2 v3 v4 kk nn S c) : P_L_law_834 scL scx Q X23 v1 v2 v3 v4 kk nn S := by
  obtain ⟨hI, o1, o2, o3, l3, tp, fa, wh, wr, hv, hk, hn⟩ := h
  obtain ⟨AA, GG, wr, gb⟩ := wr
  unfold P_L_law_834
  intro x339 ex339
  refine ⟨sc_in (j := 1) hv hc hL ex339 (by omega) (by decide), ?_⟩
  intro x340 ex340
  intro x341 ex341
  refine ⟨sc_in (j := 2) hv hc hL ex341 (by omega) (by decide), ?_⟩
  intro x342 ex342
  intro x343 ex343
  refine ⟨sc_in (j := 3) hv hc hL ex343 (by omega) (by decide), ?_⟩
  intro x344 ex344
  intro x345 ex345
  refine ⟨sc_in (j := 4) hv hc hL ex345 (by omega) (by decide), ?_⟩
  intro x346 ex346
  refine ⟨o1, ?_⟩
  refine ⟨by show _ ≤ 601024; omega, by show _ ≤ 7293034; omega, ?_⟩
  refine mz_X9_best hI o1 (fun x348 S347 hJ g349 fc350 Kg349 nf1 kz => ?_)
  have wr := wr_keep hI o2 wr kz.1 kz.2 fc350 (by decide) (by decide) (by decide)
  have tp := tt_fri tp o1 o2 Kg349 fc350 (by decide) (by decide) (by decide) (by decide)
  have fa := fa_fri fa o1 o2 fc350 (by decide) (by decide)
  have hI := hJ
  have l3 := (gr_len g349 o3).trans l3
  have o1 := gr_ob g349 o1
  have o2 := gr_ob g349 o2
  have o3 := gr_ob g349 o3
  intro _
  intro x351 ex351
  refine ⟨sc_in (j := 1) hv hc hL ex351 (by omega) (by decide), ?_⟩
  intro x352 ex352
  intro x353 ex353
  refine ⟨sc_in (j := 2) hv hc hL ex353 (by omega) (by decide), ?_⟩
  intro x354 ex354
  intro x355 ex355
  refine ⟨sc_in (j := 3) hv hc hL ex355 (by omega) (by decide), ?_⟩
  intro x356 ex356
  intro x357 ex357
  refine ⟨sc_in (j := 4) hv hc hL ex357 (by omega) (by decide), ?_⟩
  intro x358 ex358
  refine ⟨o2, ?_⟩
  refine ⟨by show _ ≤ 601024; omega, by show _ ≤ 7293034; omega, ?_⟩
  refine mz_X11_best hI o2 (fun x360 S359 hJ g361 fc362 Kg361 nf2 kz => ?_)
  have wr := wr_keep hI o2 wr kz.1 kz.2 fc362 (by decide) (by decide) (by decide)
  have tp := tt_fri tp o1 o2 Kg361 fc362 (by decide) (by decide) (by decide) (by decide)
  have fa := fa_fri fa o1 o2 fc362 (by decide) (by decide)
  have wh := wh_set nf1 fc362 (by decide) nf2
  have hI := hJ
  have l3 := (gr_len g361 o3).trans l3
  have o1 := gr_ob g361 o1
  have o2 := gr_ob g361 o2
  have o3 := gr_ob g361 o3
  intro _
  unfold P_L_law_2341
  intro x363 ex363
  have back := hb x363 ex363
  exact back _ _ _ hI o1 o2 o3 l3 tp fa wh ⟨AA, GG, wr, gb⟩ (by omega) (by omega)
set_option maxHeartbeats 4000000 in
set_option maxRecDepth 20000 in
theorem a_L_law_895 {scL : Nat} {scx : Nat → Int32} {Q : Int32 → HS → Prop} {X23 : Nat → Nat → Nat → Int32 → Nat → Nat → HS → Prop} {v1 v2 v3 : Nat} {v4 : Int32} {kk nn : Nat} {S : HS} {c : Nat} (hL : scL ≤ 4096) (hc : 8 * c + 8 ≤ scL) (hb : ∀ x : Int32, x = v4 + (8 : Int32) → ∀ (kk nn : Nat) (T : HS), IV T → ob T v1 9 → ob T v2 11 → ob T v3 14 → hN T v3 = 1 → TT v1 v2 T → fI T v1 7 = fI T v2 13 → WH v1 v2 T → WRy v1 v2 T → kk ≤ 200 + 35 * (c + 1) → nn ≤ 13000 + 8200 * (c + 1) → X23 v1 v2 v3 x kk nn T) (h : LI v1 v2 v3 v4 kk nn S c) : P_L_law_895 scL scx Q X23 v1 v2 v3 v4 kk nn S := by
  obtain ⟨hI, o1, o2, o3, l3, tp, fa, wh, wr, hv, hk, hn⟩ := h
  obtain ⟨AA, GG, wr, gb⟩ := wr
  unfold P_L_law_895
  intro x364 ex364
  refine ⟨sc_in (j := 1) hv hc hL ex364 (by omega) (by decide), ?_⟩
  intro x365 ex365
  intro x366 ex366
  refine ⟨sc_in (j := 2) hv hc hL ex366 (by omega) (by decide), ?_⟩
  intro x367 ex367
  intro x368 ex368
  refine ⟨sc_in (j := 3) hv hc hL ex368 (by omega) (by decide), ?_⟩
  intro x369 ex369
  intro x370 ex370
  refine ⟨sc_in (j := 4) hv hc hL ex370 (by omega) (by decide), ?_⟩
  intro x371 ex371
  intro x372 ex372
  refine ⟨sc_in (j := 5) hv hc hL ex372 (by omega) (by decide), ?_⟩
  intro x373 ex373
  refine ⟨fun c374 => ?_, fun c374 => ?_⟩
  · unfold P_L_law_934
    refine ⟨o1, ?_⟩
    refine ⟨by show _ ≤ 601024; omega, by show _ ≤ 7293034; omega, ?_⟩
    refine mz_X9_saves hI o1 (fun x376 S375 hJ g377 fc378 Kg377 nf1 kz => ?_)
    have wr := wr_keep hI o2 wr kz.1 kz.2 fc378 (by decide) (by decide) (by decide)
    have tp := tt_fri tp o1 o2 Kg377 fc378 (by decide) (by decide) (by decide) (by decide)
    have fa := fa_fri fa o1 o2 fc378 (by decide) (by decide)
    have hI := hJ
    have l3 := (gr_len g377 o3).trans l3
    have o1 := gr_ob g377 o1
    have o2 := gr_ob g377 o2
    have o3 := gr_ob g377 o3
    intro _
    intro x379 ex379
    refine ⟨sc_in (j := 1) hv hc hL ex379 (by omega) (by decide), ?_⟩
    intro x380 ex380
    intro x381 ex381
    refine ⟨sc_in (j := 2) hv hc hL ex381 (by omega) (by decide), ?_⟩
    intro x382 ex382
    intro x383 ex383
    refine ⟨sc_in (j := 3) hv hc hL ex383 (by omega) (by decide), ?_⟩
    intro x384 ex384
    intro x385 ex385
    refine ⟨sc_in (j := 4) hv hc hL ex385 (by omega) (by decide), ?_⟩
    intro x386 ex386
    intro x387 ex387
    refine ⟨sc_in (j := 5) hv hc hL ex387 (by omega) (by decide), ?_⟩
    intro x388 ex388
    refine ⟨fun c389 => ?_, fun c389 => ?_⟩
    · unfold P_L_law_977
      refine ⟨o2, ?_⟩
      refine ⟨by show _ ≤ 601024; omega, by show _ ≤ 7293034; omega, ?_⟩
      refine mz_X11_saves hI o2 (fun x391 S390 hJ g392 fc393 Kg392 nf2 kz => ?_)
      have wr := wr_keep hI o2 wr kz.1 kz.2 fc393 (by decide) (by decide) (by decide)
      have tp := tt_fri tp o1 o2 Kg392 fc393 (by decide) (by decide) (by decide) (by decide)
      have fa := fa_fri fa o1 o2 fc393 (by decide) (by decide)
      have wh := wh_set nf1 fc393 (by decide) nf2
      have hI := hJ
      have l3 := (gr_len g392 o3).trans l3
      have o1 := gr_ob g392 o1
      have o2 := gr_ob g392 o2
      have o3 := gr_ob g392 o3
      intro _
      unfold P_L_law_2341
      intro x394 ex394
      have back := hb x394 ex394
      exact back _ _ _ hI o1 o2 o3 l3 tp fa wh ⟨AA, GG, wr, gb⟩ (by omega) (by omega)
    · unfold P_L_law_977
      refine ⟨o2, ?_⟩
      refine ⟨by show _ ≤ 601024; omega, by show _ ≤ 7293034; omega, ?_⟩
      refine mz_X11_saves hI o2 (fun x396 S395 hJ g397 fc398 Kg397 nf2 kz => ?_)
      have wr := wr_keep hI o2 wr kz.1 kz.2 fc398 (by decide) (by decide) (by decide)
      have tp := tt_fri tp o1 o2 Kg397 fc398 (by decide) (by decide) (by decide) (by decide)
      have fa := fa_fri fa o1 o2 fc398 (by decide) (by decide)
      have wh := wh_set nf1 fc398 (by decide) nf2
      have hI := hJ
      have l3 := (gr_len g397 o3).trans l3
      have o1 := gr_ob g397 o1
      have o2 := gr_ob g397 o2
      have o3 := gr_ob g397 o3
      intro _
      unfold P_L_law_2341
      intro x399 ex399
      have back := hb x399 ex399
      exact back _ _ _ hI o1 o2 o3 l3 tp fa wh ⟨AA, GG, wr, gb⟩ (by omega) (by omega)
  · unfold P_L_law_934
    refine ⟨o1, ?_⟩
    refine ⟨by show _ ≤ 601024; omega, by show _ ≤ 7293034; omega, ?_⟩
    refine mz_X9_saves hI o1 (fun x401 S400 hJ g402 fc403 Kg402 nf1 kz => ?_)
    have wr := wr_keep hI o2 wr kz.1 kz.2 fc403 (by decide) (by decide) (by decide)
    have tp := tt_fri tp o1 o2 Kg402 fc403 (by decide) (by decide) (by decide) (by decide)
    have fa := fa_fri fa o1 o2 fc403 (by decide) (by decide)
    have hI := hJ
    have l3 := (gr_len g402 o3).trans l3
    have o1 := gr_ob g402 o1
    have o2 := gr_ob g402 o2
    have o3 := gr_ob g402 o3
    intro _
    intro x404 ex404
    refine ⟨sc_in (j := 1) hv hc hL ex404 (by omega) (by decide), ?_⟩
    intro x405 ex405
    intro x406 ex406
    refine ⟨sc_in (j := 2) hv hc hL ex406 (by omega) (by decide), ?_⟩
    intro x407 ex407
    intro x408 ex408
    refine ⟨sc_in (j := 3) hv hc hL ex408 (by omega) (by decide), ?_⟩
    intro x409 ex409
    intro x410 ex410
    refine ⟨sc_in (j := 4) hv hc hL ex410 (by omega) (by decide), ?_⟩
    intro x411 ex411
    intro x412 ex412
    refine ⟨sc_in (j := 5) hv hc hL ex412 (by omega) (by decide), ?_⟩
    intro x413 ex413
    refine ⟨fun c414 => ?_, fun c414 => ?_⟩
    · unfold P_L_law_977
      refine ⟨o2, ?_⟩
      refine ⟨by show _ ≤ 601024; omega, by show _ ≤ 7293034; omega, ?_⟩
      refine mz_X11_saves hI o2 (fun x416 S415 hJ g417 fc418 Kg417 nf2 kz => ?_)
      have wr := wr_keep hI o2 wr kz.1 kz.2 fc418 (by decide) (by decide) (by decide)
      have tp := tt_fri tp o1 o2 Kg417 fc418 (by decide) (by decide) (by decide) (by decide)
      have fa := fa_fri fa o1 o2 fc418 (by decide) (by decide)
      have wh := wh_set nf1 fc418 (by decide) nf2
      have hI := hJ
      have l3 := (gr_len g417 o3).trans l3
      have o1 := gr_ob g417 o1
      have o2 := gr_ob g417 o2
      have o3 := gr_ob g417 o3
      intro _
      unfold P_L_law_2341
      intro x419 ex419
      have back := hb x419 ex419
      exact back _ _ _ hI o1 o2 o3 l3 tp fa wh ⟨AA, GG, wr, gb⟩ (by omega) (by omega)
    · unfold P_L_law_977
      refine ⟨o2, ?_⟩
      refine ⟨by show _ ≤ 601024; omega, by show _ ≤ 7293034; omega, ?_⟩
      refine mz_X11_saves hI o2 (fun x421 S420 hJ g422 fc423 Kg422 nf2 kz => ?_)
      have wr := wr_keep hI o2 wr kz.1 kz.2 fc423 (by decide) (by decide) (by decide)
      have tp := tt_fri tp o1 o2 Kg422 fc423 (by decide) (by decide) (by decide) (by decide)
      have fa := fa_fri fa o1 o2 fc423 (by decide) (by decide)
      have wh := wh_set nf1 fc423 (by decide) nf2
      have hI := hJ
      have l3 := (gr_len g422 o3).trans l3
      have o1 := gr_ob g422 o1
      have o2 := gr_ob g422 o2
      have o3 := gr_ob g422 o3
      intro _
      unfold P_L_law_2341
      intro x424 ex424
      have back := hb x424 ex424
      exact back _ _ _ hI o1 o2 o3 l3 tp fa wh ⟨AA, GG, wr, gb⟩ (by omega) (by omega)
set_option maxHeartbeats 4000000 in
set_option maxRecDepth 20000 in
theorem a_L_law_984 {scL : Nat} {scx : Nat → Int32} {Q : Int32 → HS → Prop} {X23 : Nat → Nat → Nat → Int32 → Nat → Nat → HS → Prop} {v1 v2 v3 : Nat} {v4 : Int32} {kk nn : Nat} {S : HS} {c : Nat} (hL : scL ≤ 4096) (hc : 8 * c + 8 ≤ scL) (hb : ∀ x : Int32, x = v4 + (8 : Int32) → ∀ (kk nn : Nat) (T : HS), IV T → ob T v1 9 → ob T v2 11 → ob T v3 14 → hN T v3 = 1 → TT v1 v2 T → fI T v1 7 = fI T v2 13 → WH v1 v2 T → WRy v1 v2 T → kk ≤ 200 + 35 * (c + 1) → nn ≤ 13000 + 8200 * (c + 1) → X23 v1 v2 v3 x kk nn T) (h : LI v1 v2 v3 v4 kk nn S c) : P_L_law_984 scL scx Q X23 v1 v2 v3 v4 kk nn S := by
  obtain ⟨hI, o1, o2, o3, l3, tp, fa, wh, wr, hv, hk, hn⟩ := h
  obtain ⟨AA, GG, wr, gb⟩ := wr
  unfold P_L_law_984
  intro x425 ex425
  refine ⟨sc_in (j := 1) hv hc hL ex425 (by omega) (by decide), ?_⟩
  intro x426 ex426
  intro x427 ex427
  refine ⟨sc_in (j := 2) hv hc hL ex427 (by omega) (by decide), ?_⟩
  intro x428 ex428
  intro x429 ex429
  refine ⟨sc_in (j := 3) hv hc hL ex429 (by omega) (by decide), ?_⟩
  intro x430 ex430
  intro x431 ex431
  refine ⟨sc_in (j := 4) hv hc hL ex431 (by omega) (by decide), ?_⟩
  intro x432 ex432
  refine ⟨o1, ?_⟩
  refine ⟨by show _ ≤ 601024; omega, by show _ ≤ 7293034; omega, ?_⟩
  refine mz_X9_worst hI o1 (fun x434 S433 hJ g435 fc436 Kg435 nf1 kz => ?_)
  have wr := wr_keep hI o2 wr kz.1 kz.2 fc436 (by decide) (by decide) (by decide)
  have tp := tt_fri tp o1 o2 Kg435 fc436 (by decide) (by decide) (by decide) (by decide)
  have fa := fa_fri fa o1 o2 fc436 (by decide) (by decide)
  have hI := hJ
  have l3 := (gr_len g435 o3).trans l3
  have o1 := gr_ob g435 o1
  have o2 := gr_ob g435 o2
  have o3 := gr_ob g435 o3
  intro _
  intro x437 ex437
  refine ⟨sc_in (j := 1) hv hc hL ex437 (by omega) (by decide), ?_⟩
  intro x438 ex438
  intro x439 ex439
  refine ⟨sc_in (j := 2) hv hc hL ex439 (by omega) (by decide), ?_⟩
  intro x440 ex440
  intro x441 ex441
  refine ⟨sc_in (j := 3) hv hc hL ex441 (by omega) (by decide), ?_⟩
  intro x442 ex442
  intro x443 ex443
  refine ⟨sc_in (j := 4) hv hc hL ex443 (by omega) (by decide), ?_⟩
  intro x444 ex444
  refine ⟨o2, ?_⟩
  refine ⟨by show _ ≤ 601024; omega, by show _ ≤ 7293034; omega, ?_⟩
  refine mz_X11_worst hI o2 (fun x446 S445 hJ g447 fc448 Kg447 nf2 kz => ?_)
  have wr := wr_keep hI o2 wr kz.1 kz.2 fc448 (by decide) (by decide) (by decide)
  have tp := tt_fri tp o1 o2 Kg447 fc448 (by decide) (by decide) (by decide) (by decide)
  have fa := fa_fri fa o1 o2 fc448 (by decide) (by decide)
  have wh := wh_set nf1 fc448 (by decide) nf2
  have hI := hJ
  have l3 := (gr_len g447 o3).trans l3
  have o1 := gr_ob g447 o1
  have o2 := gr_ob g447 o2
  have o3 := gr_ob g447 o3
  intro _
  unfold P_L_law_2341
  intro x449 ex449
  have back := hb x449 ex449
  exact back _ _ _ hI o1 o2 o3 l3 tp fa wh ⟨AA, GG, wr, gb⟩ (by omega) (by omega)
set_option maxHeartbeats 4000000 in
set_option maxRecDepth 20000 in
theorem a_L_law_1045 {scL : Nat} {scx : Nat → Int32} {Q : Int32 → HS → Prop} {X23 : Nat → Nat → Nat → Int32 → Nat → Nat → HS → Prop} {v1 v2 v3 : Nat} {v4 : Int32} {kk nn : Nat} {S : HS} {c : Nat} (hL : scL ≤ 4096) (hc : 8 * c + 8 ≤ scL) (hb : ∀ x : Int32, x = v4 + (8 : Int32) → ∀ (kk nn : Nat) (T : HS), IV T → ob T v1 9 → ob T v2 11 → ob T v3 14 → hN T v3 = 1 → TT v1 v2 T → fI T v1 7 = fI T v2 13 → WH v1 v2 T → WRy v1 v2 T → kk ≤ 200 + 35 * (c + 1) → nn ≤ 13000 + 8200 * (c + 1) → X23 v1 v2 v3 x kk nn T) (h : LI v1 v2 v3 v4 kk nn S c) : P_L_law_1045 scL scx Q X23 v1 v2 v3 v4 kk nn S := by
  obtain ⟨hI, o1, o2, o3, l3, tp, fa, wh, wr, hv, hk, hn⟩ := h
  obtain ⟨AA, GG, wr, gb⟩ := wr
  unfold P_L_law_1045
  intro x450 ex450
  refine ⟨sc_in (j := 1) hv hc hL ex450 (by omega) (by decide), ?_⟩
  intro x451 ex451
  intro x452 ex452
  refine ⟨sc_in (j := 2) hv hc hL ex452 (by omega) (by decide), ?_⟩
  intro x453 ex453
  intro x454 ex454
  refine ⟨sc_in (j := 3) hv hc hL ex454 (by omega) (by decide), ?_⟩
  intro x455 ex455
  intro x456 ex456
  refine ⟨sc_in (j := 4) hv hc hL ex456 (by omega) (by decide), ?_⟩
  intro x457 ex457
  refine ⟨o1, ?_⟩
  refine ⟨by show _ ≤ 601024; omega, by show _ ≤ 7293034; omega, ?_⟩
  refine mz_X9_even hI o1 (fun x459 S458 hJ g460 fc461 Kg460 nf1 kz => ?_)
  have wr := wr_keep hI o2 wr kz.1 kz.2 fc461 (by decide) (by decide) (by decide)
  have tp := tt_fri tp o1 o2 Kg460 fc461 (by decide) (by decide) (by decide) (by decide)
  have fa := fa_fri fa o1 o2 fc461 (by decide) (by decide)
  have hI := hJ
  have l3 := (gr_len g460 o3).trans l3
  have o1 := gr_ob g460 o1
  have o2 := gr_ob g460 o2
  have o3 := gr_ob g460 o3
  intro _
  intro x462 ex462
  refine ⟨sc_in (j := 1) hv hc hL ex462 (by omega) (by decide), ?_⟩
  intro x463 ex463
  intro x464 ex464
  refine ⟨sc_in (j := 2) hv hc hL ex464 (by omega) (by decide), ?_⟩
  intro x465 ex465
  intro x466 ex466
  refine ⟨sc_in (j := 3) hv hc hL ex466 (by omega) (by decide), ?_⟩
  intro x467 ex467
  intro x468 ex468
  refine ⟨sc_in (j := 4) hv hc hL ex468 (by omega) (by decide), ?_⟩
  intro x469 ex469
  refine ⟨o2, ?_⟩
  refine ⟨by show _ ≤ 601024; omega, by show _ ≤ 7293034; omega, ?_⟩
  refine mz_X11_even hI o2 (fun x471 S470 hJ g472 fc473 Kg472 nf2 kz => ?_)
  have wr := wr_keep hI o2 wr kz.1 kz.2 fc473 (by decide) (by decide) (by decide)
  have tp := tt_fri tp o1 o2 Kg472 fc473 (by decide) (by decide) (by decide) (by decide)
  have fa := fa_fri fa o1 o2 fc473 (by decide) (by decide)
  have wh := wh_set nf1 fc473 (by decide) nf2
  have hI := hJ
  have l3 := (gr_len g472 o3).trans l3
  have o1 := gr_ob g472 o1
  have o2 := gr_ob g472 o2
  have o3 := gr_ob g472 o3
  intro _
  unfold P_L_law_2341
  intro x474 ex474
  have back := hb x474 ex474
  exact back _ _ _ hI o1 o2 o3 l3 tp fa wh ⟨AA, GG, wr, gb⟩ (by omega) (by omega)
set_option maxHeartbeats 4000000 in
set_option maxRecDepth 20000 in
theorem a_L_law_1106 {scL : Nat} {scx : Nat → Int32} {Q : Int32 → HS → Prop} {X23 : Nat → Nat → Nat → Int32 → Nat → Nat → HS → Prop} {v1 v2 v3 : Nat} {v4 : Int32} {kk nn : Nat} {S : HS} {c : Nat} (hL : scL ≤ 4096) (hc : 8 * c + 8 ≤ scL) (hb : ∀ x : Int32, x = v4 + (8 : Int32) → ∀ (kk nn : Nat) (T : HS), IV T → ob T v1 9 → ob T v2 11 → ob T v3 14 → hN T v3 = 1 → TT v1 v2 T → fI T v1 7 = fI T v2 13 → WH v1 v2 T → WRy v1 v2 T → kk ≤ 200 + 35 * (c + 1) → nn ≤ 13000 + 8200 * (c + 1) → X23 v1 v2 v3 x kk nn T) (h : LI v1 v2 v3 v4 kk nn S c) : P_L_law_1106 scL scx Q X23 v1 v2 v3 v4 kk nn S := by
  obtain ⟨hI, o1, o2, o3, l3, tp, fa, wh, wr, hv, hk, hn⟩ := h
  obtain ⟨AA, GG, wr, gb⟩ := wr
  unfold P_L_law_1106
  intro x475 ex475
  refine ⟨sc_in (j := 1) hv hc hL ex475 (by omega) (by decide), ?_⟩
  intro x476 ex476
  intro x477 ex477
  refine ⟨sc_in (j := 2) hv hc hL ex477 (by omega) (by decide), ?_⟩
  intro x478 ex478
  intro x479 ex479
  refine ⟨sc_in (j := 3) hv hc hL ex479 (by omega) (by decide), ?_⟩
  intro x480 ex480
  intro x481 ex481
  refine ⟨sc_in (j := 4) hv hc hL ex481 (by omega) (by decide), ?_⟩
  intro x482 ex482
  refine ⟨fun c483 => ?_, fun c483 => ?_⟩
  · unfold P_L_law_1139
    refine ⟨o1, ?_⟩
    refine ⟨by show _ ≤ 601024; omega, by show _ ≤ 7293034; omega, ?_⟩
    refine mz_X9_round hI o1 (fun x485 S484 hJ g486 fc487 Kg486 nf1 kz => ?_)
    have wr := wr_keep hI o2 wr kz.1 kz.2 fc487 (by decide) (by decide) (by decide)
    have tp := tt_fri tp o1 o2 Kg486 fc487 (by decide) (by decide) (by decide) (by decide)
    have fa := fa_fri fa o1 o2 fc487 (by decide) (by decide)
    have hI := hJ
    have l3 := (gr_len g486 o3).trans l3
    have o1 := gr_ob g486 o1
    have o2 := gr_ob g486 o2
    have o3 := gr_ob g486 o3
    intro _
    intro x488 ex488
    refine ⟨sc_in (j := 1) hv hc hL ex488 (by omega) (by decide), ?_⟩
    intro x489 ex489
    intro x490 ex490
    refine ⟨sc_in (j := 2) hv hc hL ex490 (by omega) (by decide), ?_⟩
    intro x491 ex491
    intro x492 ex492
    refine ⟨sc_in (j := 3) hv hc hL ex492 (by omega) (by decide), ?_⟩
    intro x493 ex493
    intro x494 ex494
    refine ⟨sc_in (j := 4) hv hc hL ex494 (by omega) (by decide), ?_⟩
    intro x495 ex495
    refine ⟨fun c496 => ?_, fun c496 => ?_⟩
    · unfold P_L_law_1176
      refine ⟨o2, ?_⟩
      refine ⟨by show _ ≤ 601024; omega, by show _ ≤ 7293034; omega, ?_⟩
      refine mz_X11_round hI o2 (fun x498 S497 hJ g499 fc500 Kg499 nf2 kz => ?_)
      have wr := wr_keep hI o2 wr kz.1 kz.2 fc500 (by decide) (by decide) (by decide)
      have tp := tt_fri tp o1 o2 Kg499 fc500 (by decide) (by decide) (by decide) (by decide)
      have fa := fa_fri fa o1 o2 fc500 (by decide) (by decide)
      have wh := wh_set nf1 fc500 (by decide) nf2
      have hI := hJ
      have l3 := (gr_len g499 o3).trans l3
      have o1 := gr_ob g499 o1
      have o2 := gr_ob g499 o2
      have o3 := gr_ob g499 o3
      intro _
      unfold P_L_law_2341
      intro x501 ex501
      have back := hb x501 ex501
      exact back _ _ _ hI o1 o2 o3 l3 tp fa wh ⟨AA, GG, wr, gb⟩ (by omega) (by omega)
    · unfold P_L_law_1176
      refine ⟨o2, ?_⟩
      refine ⟨by show _ ≤ 601024; omega, by show _ ≤ 7293034; omega, ?_⟩
      refine mz_X11_round hI o2 (fun x503 S502 hJ g504 fc505 Kg504 nf2 kz => ?_)
      have wr := wr_keep hI o2 wr kz.1 kz.2 fc505 (by decide) (by decide) (by decide)
      have tp := tt_fri tp o1 o2 Kg504 fc505 (by decide) (by decide) (by decide) (by decide)
      have fa := fa_fri fa o1 o2 fc505 (by decide) (by decide)
      have wh := wh_set nf1 fc505 (by decide) nf2
      have hI := hJ
      have l3 := (gr_len g504 o3).trans l3
      have o1 := gr_ob g504 o1
      have o2 := gr_ob g504 o2
      have o3 := gr_ob g504 o3
      intro _
      unfold P_L_law_2341
      intro x506 ex506
      have back := hb x506 ex506
      exact back _ _ _ hI o1 o2 o3 l3 tp fa wh ⟨AA, GG, wr, gb⟩ (by omega) (by omega)
  · unfold P_L_law_1139
    refine ⟨o1, ?_⟩
    refine ⟨by show _ ≤ 601024; omega, by show _ ≤ 7293034; omega, ?_⟩
    refine mz_X9_round hI o1 (fun x508 S507 hJ g509 fc510 Kg509 nf1 kz => ?_)
    have wr := wr_keep hI o2 wr kz.1 kz.2 fc510 (by decide) (by decide) (by decide)
    have tp := tt_fri tp o1 o2 Kg509 fc510 (by decide) (by decide) (by decide) (by decide)
    have fa := fa_fri fa o1 o2 fc510 (by decide) (by decide)
    have hI := hJ
    have l3 := (gr_len g509 o3).trans l3
    have o1 := gr_ob g509 o1
    have o2 := gr_ob g509 o2
    have o3 := gr_ob g509 o3
    intro _
    intro x511 ex511
    refine ⟨sc_in (j := 1) hv hc hL ex511 (by omega) (by decide), ?_⟩
    intro x512 ex512
    intro x513 ex513
    refine ⟨sc_in (j := 2) hv hc hL ex513 (by omega) (by decide), ?_⟩
    intro x514 ex514
    intro x515 ex515
    refine ⟨sc_in (j := 3) hv hc hL ex515 (by omega) (by decide), ?_⟩
    intro x516 ex516
    intro x517 ex517
    refine ⟨sc_in (j := 4) hv hc hL ex517 (by omega) (by decide), ?_⟩
    intro x518 ex518
    refine ⟨fun c519 => ?_, fun c519 => ?_⟩
    · unfold P_L_law_1176
      refine ⟨o2, ?_⟩
      refine ⟨by show _ ≤ 601024; omega, by show _ ≤ 7293034; omega, ?_⟩
      refine mz_X11_round hI o2 (fun x521 S520 hJ g522 fc523 Kg522 nf2 kz => ?_)
      have wr := wr_keep hI o2 wr kz.1 kz.2 fc523 (by decide) (by decide) (by decide)
      have tp := tt_fri tp o1 o2 Kg522 fc523 (by decide) (by decide) (by decide) (by decide)
      have fa := fa_fri fa o1 o2 fc523 (by decide) (by decide)
      have wh := wh_set nf1 fc523 (by decide) nf2
      have hI := hJ
      have l3 := (gr_len g522 o3).trans l3
      have o1 := gr_ob g522 o1
      have o2 := gr_ob g522 o2
      have o3 := gr_ob g522 o3
      intro _
      unfold P_L_law_2341
      intro x524 ex524
      have back := hb x524 ex524
      exact back _ _ _ hI o1 o2 o3 l3 tp fa wh ⟨AA, GG, wr, gb⟩ (by omega) (by omega)
    · unfold P_L_law_1176
      refine ⟨o2, ?_⟩
      refine ⟨by show _ ≤ 601024; omega, by show _ ≤ 7293034; omega, ?_⟩
      refine mz_X11_round hI o2 (fun x526 S525 hJ g527 fc528 Kg527 nf2 kz => ?_)
      have wr := wr_keep hI o2 wr kz.1 kz.2 fc528 (by decide) (by decide) (by decide)
      have tp := tt_fri tp o1 o2 Kg527 fc528 (by decide) (by decide) (by decide) (by decide)
      have fa := fa_fri fa o1 o2 fc528 (by decide) (by decide)
      have wh := wh_set nf1 fc528 (by decide) nf2
      have hI := hJ
      have l3 := (gr_len g527 o3).trans l3
      have o1 := gr_ob g527 o1
      have o2 := gr_ob g527 o2
      have o3 := gr_ob g527 o3
      intro _
      unfold P_L_law_2341
      intro x529 ex529
      have back := hb x529 ex529
      exact back _ _ _ hI o1 o2 o3 l3 tp fa wh ⟨AA, GG, wr, gb⟩ (by omega) (by omega)
set_option maxHeartbeats 4000000 in
set_option maxRecDepth 20000 in
theorem a_L_law_1183 {scL : Nat} {scx : Nat → Int32} {Q : Int32 → HS → Prop} {X23 : Nat → Nat → Nat → Int32 → Nat → Nat → HS → Prop} {v1 v2 v3 : Nat} {v4 : Int32} {kk nn : Nat} {S : HS} {c : Nat} (hL : scL ≤ 4096) (hc : 8 * c + 8 ≤ scL) (hb : ∀ x : Int32, x = v4 + (8 : Int32) → ∀ (kk nn : Nat) (T : HS), IV T → ob T v1 9 → ob T v2 11 → ob T v3 14 → hN T v3 = 1 → TT v1 v2 T → fI T v1 7 = fI T v2 13 → WH v1 v2 T → WRy v1 v2 T → kk ≤ 200 + 35 * (c + 1) → nn ≤ 13000 + 8200 * (c + 1) → X23 v1 v2 v3 x kk nn T) (h : LI v1 v2 v3 v4 kk nn S c) : P_L_law_1183 scL scx Q X23 v1 v2 v3 v4 kk nn S := by
  obtain ⟨hI, o1, o2, o3, l3, tp, fa, wh, wr, hv, hk, hn⟩ := h
  obtain ⟨AA, GG, wr, gb⟩ := wr
  unfold P_L_law_1183
  intro x530 ex530
  refine ⟨sc_in (j := 1) hv hc hL ex530 (by omega) (by decide), ?_⟩
  intro x531 ex531
  intro x532 ex532
  refine ⟨sc_in (j := 2) hv hc hL ex532 (by omega) (by decide), ?_⟩
  intro x533 ex533
  intro x534 ex534
  refine ⟨sc_in (j := 3) hv hc hL ex534 (by omega) (by decide), ?_⟩
  intro x535 ex535
  refine ⟨o1, ?_⟩
  refine ⟨by show _ ≤ 601024; omega, by show _ ≤ 7293034; omega, ?_⟩
  refine mz_X9_driest hI o1 (fun x537 S536 hJ g538 fc539 Kg538 nf1 kz => ?_)
  have wr := wr_keep hI o2 wr kz.1 kz.2 fc539 (by decide) (by decide) (by decide)
  have tp := tt_fri tp o1 o2 Kg538 fc539 (by decide) (by decide) (by decide) (by decide)
  have fa := fa_fri fa o1 o2 fc539 (by decide) (by decide)
  have hI := hJ
  have l3 := (gr_len g538 o3).trans l3
  have o1 := gr_ob g538 o1
  have o2 := gr_ob g538 o2
  have o3 := gr_ob g538 o3
  intro _
  intro x540 ex540
  refine ⟨sc_in (j := 1) hv hc hL ex540 (by omega) (by decide), ?_⟩
  intro x541 ex541
  intro x542 ex542
  refine ⟨sc_in (j := 2) hv hc hL ex542 (by omega) (by decide), ?_⟩
  intro x543 ex543
  intro x544 ex544
  refine ⟨sc_in (j := 3) hv hc hL ex544 (by omega) (by decide), ?_⟩
  intro x545 ex545
  refine ⟨o2, ?_⟩
  refine ⟨by show _ ≤ 601024; omega, by show _ ≤ 7293034; omega, ?_⟩
  refine mz_X11_driest hI o2 (fun x547 S546 hJ g548 fc549 Kg548 nf2 kz => ?_)
  have wr := wr_keep hI o2 wr kz.1 kz.2 fc549 (by decide) (by decide) (by decide)
  have tp := tt_fri tp o1 o2 Kg548 fc549 (by decide) (by decide) (by decide) (by decide)
  have fa := fa_fri fa o1 o2 fc549 (by decide) (by decide)
  have wh := wh_set nf1 fc549 (by decide) nf2
  have hI := hJ
  have l3 := (gr_len g548 o3).trans l3
  have o1 := gr_ob g548 o1
  have o2 := gr_ob g548 o2
  have o3 := gr_ob g548 o3
  intro _
  unfold P_L_law_2341
  intro x550 ex550
  have back := hb x550 ex550
  exact back _ _ _ hI o1 o2 o3 l3 tp fa wh ⟨AA, GG, wr, gb⟩ (by omega) (by omega)
set_option maxHeartbeats 4000000 in
set_option maxRecDepth 20000 in
theorem a_L_law_1232 {scL : Nat} {scx : Nat → Int32} {Q : Int32 → HS → Prop} {X23 : Nat → Nat → Nat → Int32 → Nat → Nat → HS → Prop} {v1 v2 v3 : Nat} {v4 : Int32} {kk nn : Nat} {S : HS} {c : Nat} (hL : scL ≤ 4096) (hc : 8 * c + 8 ≤ scL) (hb : ∀ x : Int32, x = v4 + (8 : Int32) → ∀ (kk nn : Nat) (T : HS), IV T → ob T v1 9 → ob T v2 11 → ob T v3 14 → hN T v3 = 1 → TT v1 v2 T → fI T v1 7 = fI T v2 13 → WH v1 v2 T → WRy v1 v2 T → kk ≤ 200 + 35 * (c + 1) → nn ≤ 13000 + 8200 * (c + 1) → X23 v1 v2 v3 x kk nn T) (h : LI v1 v2 v3 v4 kk nn S c) : P_L_law_1232 scL scx Q X23 v1 v2 v3 v4 kk nn S := by
  obtain ⟨hI, o1, o2, o3, l3, tp, fa, wh, wr, hv, hk, hn⟩ := h
  obtain ⟨AA, GG, wr, gb⟩ := wr
  unfold P_L_law_1232
  intro x551 ex551
  refine ⟨sc_in (j := 1) hv hc hL ex551 (by omega) (by decide), ?_⟩
  intro x552 ex552
  intro x553 ex553
  refine ⟨sc_in (j := 2) hv hc hL ex553 (by omega) (by decide), ?_⟩
  intro x554 ex554
  intro x555 ex555
  refine ⟨sc_in (j := 3) hv hc hL ex555 (by omega) (by decide), ?_⟩
  intro x556 ex556
  intro x557 ex557
  refine ⟨sc_in (j := 4) hv hc hL ex557 (by omega) (by decide), ?_⟩
  intro x558 ex558
  intro x559 ex559
  refine ⟨sc_in (j := 5) hv hc hL ex559 (by omega) (by decide), ?_⟩
  intro x560 ex560
  intro x561 ex561
  refine ⟨sc_in (j := 6) hv hc hL ex561 (by omega) (by decide), ?_⟩
  intro x562 ex562
  intro x563 ex563
  refine ⟨sc_in (j := 7) hv hc hL ex563 (by omega) (by decide), ?_⟩
  intro x564 ex564
  refine ⟨fun c565 => ?_, fun c565 => ?_⟩
  · unfold P_L_law_1285
    refine ⟨o1, ?_⟩
    refine ⟨by show _ ≤ 601024; omega, by show _ ≤ 7293034; omega, ?_⟩
    refine mz_X9_lee hI o1 (fun x567 S566 hJ g568 fc569 Kg568 nf1 kz => ?_)
    have wr := wr_keep hI o2 wr kz.1 kz.2 fc569 (by decide) (by decide) (by decide)
    have tp := tt_fri tp o1 o2 Kg568 fc569 (by decide) (by decide) (by decide) (by decide)
    have fa := fa_fri fa o1 o2 fc569 (by decide) (by decide)
    have hI := hJ
    have l3 := (gr_len g568 o3).trans l3
    have o1 := gr_ob g568 o1
    have o2 := gr_ob g568 o2
    have o3 := gr_ob g568 o3
    intro _
    intro x570 ex570
    refine ⟨sc_in (j := 1) hv hc hL ex570 (by omega) (by decide), ?_⟩
    intro x571 ex571
    intro x572 ex572
    refine ⟨sc_in (j := 2) hv hc hL ex572 (by omega) (by decide), ?_⟩
    intro x573 ex573
    intro x574 ex574
    refine ⟨sc_in (j := 3) hv hc hL ex574 (by omega) (by decide), ?_⟩
    intro x575 ex575
    intro x576 ex576
    refine ⟨sc_in (j := 4) hv hc hL ex576 (by omega) (by decide), ?_⟩
    intro x577 ex577
    intro x578 ex578
    refine ⟨sc_in (j := 5) hv hc hL ex578 (by omega) (by decide), ?_⟩
    intro x579 ex579
    intro x580 ex580
    refine ⟨sc_in (j := 6) hv hc hL ex580 (by omega) (by decide), ?_⟩
    intro x581 ex581
    intro x582 ex582
    refine ⟨sc_in (j := 7) hv hc hL ex582 (by omega) (by decide), ?_⟩
    intro x583 ex583
    refine ⟨fun c584 => ?_, fun c584 => ?_⟩
    · unfold P_L_law_1342
      refine ⟨o2, ?_⟩
      refine ⟨by show _ ≤ 601024; omega, by show _ ≤ 7293034; omega, ?_⟩
      refine mz_X11_lee hI o2 (fun x586 S585 hJ g587 fc588 Kg587 nf2 kz => ?_)
      have wr := wr_keep hI o2 wr kz.1 kz.2 fc588 (by decide) (by decide) (by decide)
      have tp := tt_fri tp o1 o2 Kg587 fc588 (by decide) (by decide) (by decide) (by decide)
      have fa := fa_fri fa o1 o2 fc588 (by decide) (by decide)
      have wh := wh_set nf1 fc588 (by decide) nf2
      have hI := hJ
      have l3 := (gr_len g587 o3).trans l3
      have o1 := gr_ob g587 o1
      have o2 := gr_ob g587 o2
      have o3 := gr_ob g587 o3
      intro _
      unfold P_L_law_2341
      intro x589 ex589
      have back := hb x589 ex589
      exact back _ _ _ hI o1 o2 o3 l3 tp fa wh ⟨AA, GG, wr, gb⟩ (by omega) (by omega)
    · unfold P_L_law_1342
      refine ⟨o2, ?_⟩
      refine ⟨by show _ ≤ 601024; omega, by show _ ≤ 7293034; omega, ?_⟩
      refine mz_X11_lee hI o2 (fun x591 S590 hJ g592 fc593 Kg592 nf2 kz => ?_)
      have wr := wr_keep hI o2 wr kz.1 kz.2 fc593 (by decide) (by decide) (by decide)
      have tp := tt_fri tp o1 o2 Kg592 fc593 (by decide) (by decide) (by decide) (by decide)
      have fa := fa_fri fa o1 o2 fc593 (by decide) (by decide)
      have wh := wh_set nf1 fc593 (by decide) nf2
      have hI := hJ
      have l3 := (gr_len g592 o3).trans l3
      have o1 := gr_ob g592 o1
      have o2 := gr_ob g592 o2
      have o3 := gr_ob g592 o3
      intro _
      unfold P_L_law_2341
      intro x594 ex594
      have back := hb x594 ex594
      exact back _ _ _ hI o1 o2 o3 l3 tp fa wh ⟨AA, GG, wr, gb⟩ (by omega) (by omega)
  · unfold P_L_law_1285
    refine ⟨o1, ?_⟩
    refine ⟨by show _ ≤ 601024; omega, by show _ ≤ 7293034; omega, ?_⟩
    refine mz_X9_lee hI o1 (fun x596 S595 hJ g597 fc598 Kg597 nf1 kz => ?_)
    have wr := wr_keep hI o2 wr kz.1 kz.2 fc598 (by decide) (by decide) (by decide)
    have tp := tt_fri tp o1 o2 Kg597 fc598 (by decide) (by decide) (by decide) (by decide)
    have fa := fa_fri fa o1 o2 fc598 (by decide) (by decide)
    have hI := hJ
    have l3 := (gr_len g597 o3).trans l3
    have o1 := gr_ob g597 o1
    have o2 := gr_ob g597 o2
    have o3 := gr_ob g597 o3
    intro _
    intro x599 ex599
    refine ⟨sc_in (j := 1) hv hc hL ex599 (by omega) (by decide), ?_⟩
    intro x600 ex600
    intro x601 ex601
    refine ⟨sc_in (j := 2) hv hc hL ex601 (by omega) (by decide), ?_⟩
    intro x602 ex602
    intro x603 ex603
    refine ⟨sc_in (j := 3) hv hc hL ex603 (by omega) (by decide), ?_⟩
    intro x604 ex604
    intro x605 ex605
    refine ⟨sc_in (j := 4) hv hc hL ex605 (by omega) (by decide), ?_⟩
    intro x606 ex606
    intro x607 ex607
    refine ⟨sc_in (j := 5) hv hc hL ex607 (by omega) (by decide), ?_⟩
    intro x608 ex608
    intro x609 ex609
    refine ⟨sc_in (j := 6) hv hc hL ex609 (by omega) (by decide), ?_⟩
    intro x610 ex610
    intro x611 ex611
    refine ⟨sc_in (j := 7) hv hc hL ex611 (by omega) (by decide), ?_⟩
    intro x612 ex612
    refine ⟨fun c613 => ?_, fun c613 => ?_⟩
    · unfold P_L_law_1342
      refine ⟨o2, ?_⟩
      refine ⟨by show _ ≤ 601024; omega, by show _ ≤ 7293034; omega, ?_⟩
      refine mz_X11_lee hI o2 (fun x615 S614 hJ g616 fc617 Kg616 nf2 kz => ?_)
      have wr := wr_keep hI o2 wr kz.1 kz.2 fc617 (by decide) (by decide) (by decide)
      have tp := tt_fri tp o1 o2 Kg616 fc617 (by decide) (by decide) (by decide) (by decide)
      have fa := fa_fri fa o1 o2 fc617 (by decide) (by decide)
      have wh := wh_set nf1 fc617 (by decide) nf2
      have hI := hJ
      have l3 := (gr_len g616 o3).trans l3
      have o1 := gr_ob g616 o1
      have o2 := gr_ob g616 o2
      have o3 := gr_ob g616 o3
      intro _
      unfold P_L_law_2341
      intro x618 ex618
      have back := hb x618 ex618
      exact back _ _ _ hI o1 o2 o3 l3 tp fa wh ⟨AA, GG, wr, gb⟩ (by omega) (by omega)
    · unfold P_L_law_1342
      refine ⟨o2, ?_⟩
      refine ⟨by show _ ≤ 601024; omega, by show _ ≤ 7293034; omega, ?_⟩
      refine mz_X11_lee hI o2 (fun x620 S619 hJ g621 fc622 Kg621 nf2 kz => ?_)
      have wr := wr_keep hI o2 wr kz.1 kz.2 fc622 (by decide) (by decide) (by decide)
      have tp := tt_fri tp o1 o2 Kg621 fc622 (by decide) (by decide) (by decide) (by decide)
      have fa := fa_fri fa o1 o2 fc622 (by decide) (by decide)
      have wh := wh_set nf1 fc622 (by decide) nf2
      have hI := hJ
      have l3 := (gr_len g621 o3).trans l3
      have o1 := gr_ob g621 o1
      have o2 := gr_ob g621 o2
      have o3 := gr_ob g621 o3
      intro _
      unfold P_L_law_2341
      intro x623 ex623
      have back := hb x623 ex623
      exact back _ _ _ hI o1 o2 o3 l3 tp fa wh ⟨AA, GG, wr, gb⟩ (by omega) (by omega)
set_option maxHeartbeats 4000000 in
set_option maxRecDepth 20000 in
theorem a_L_law_1349 {scL : Nat} {scx : Nat → Int32} {Q : Int32 → HS → Prop} {X23 : Nat → Nat → Nat → Int32 → Nat → Nat → HS → Prop} {v1 v2 v3 : Nat} {v4 : Int32} {kk nn : Nat} {S : HS} {c : Nat} (hL : scL ≤ 4096) (hc : 8 * c + 8 ≤ scL) (hb : ∀ x : Int32, x = v4 + (8 : Int32) → ∀ (kk nn : Nat) (T : HS), IV T → ob T v1 9 → ob T v2 11 → ob T v3 14 → hN T v3 = 1 → TT v1 v2 T → fI T v1 7 = fI T v2 13 → WH v1 v2 T → WRy v1 v2 T → kk ≤ 200 + 35 * (c + 1) → nn ≤ 13000 + 8200 * (c + 1) → X23 v1 v2 v3 x kk nn T) (h : LI v1 v2 v3 v4 kk nn S c) : P_L_law_1349 scL scx Q X23 v1 v2 v3 v4 kk nn S := by
  obtain ⟨hI, o1, o2, o3, l3, tp, fa, wh, wr, hv, hk, hn⟩ := h
  obtain ⟨AA, GG, wr, gb⟩ := wr
  unfold P_L_law_1349
  intro x624 ex624
  refine ⟨sc_in (j := 1) hv hc hL ex624 (by omega) (by decide), ?_⟩
  intro x625 ex625
  intro x626 ex626
  refine ⟨sc_in (j := 2) hv hc hL ex626 (by omega) (by decide), ?_⟩
  intro x627 ex627
  intro x628 ex628
  refine ⟨sc_in (j := 3) hv hc hL ex628 (by omega) (by decide), ?_⟩
  intro x629 ex629
  intro x630 ex630
  refine ⟨sc_in (j := 4) hv hc hL ex630 (by omega) (by decide), ?_⟩
  intro x631 ex631
  intro x632 ex632
  refine ⟨sc_in (j := 5) hv hc hL ex632 (by omega) (by decide), ?_⟩
  intro x633 ex633
  intro x634 ex634
  refine ⟨sc_in (j := 6) hv hc hL ex634 (by omega) (by decide), ?_⟩
  intro x635 ex635
  refine ⟨o1, ?_⟩
  refine ⟨by show _ ≤ 601024; omega, by show _ ≤ 7293034; omega, ?_⟩
  refine mz_X9_first hI o1 (fun x637 S636 hJ g638 fc639 Kg638 nf1 kz => ?_)
  have wr := wr_keep hI o2 wr kz.1 kz.2 fc639 (by decide) (by decide) (by decide)
  have tp := tt_fri tp o1 o2 Kg638 fc639 (by decide) (by decide) (by decide) (by decide)
  have fa := fa_fri fa o1 o2 fc639 (by decide) (by decide)
  have hI := hJ
  have l3 := (gr_len g638 o3).trans l3
  have o1 := gr_ob g638 o1
  have o2 := gr_ob g638 o2
  have o3 := gr_ob g638 o3
  intro _
  intro x640 ex640
  refine ⟨sc_in (j := 1) hv hc hL ex640 (by omega) (by decide), ?_⟩
  intro x641 ex641
  intro x642 ex642
  refine ⟨sc_in (j := 2) hv hc hL ex642 (by omega) (by decide), ?_⟩
  intro x643 ex643
  intro x644 ex644
  refine ⟨sc_in (j := 3) hv hc hL ex644 (by omega) (by decide), ?_⟩
  intro x645 ex645
  intro x646 ex646
  refine ⟨sc_in (j := 4) hv hc hL ex646 (by omega) (by decide), ?_⟩
  intro x647 ex647
  intro x648 ex648
  refine ⟨sc_in (j := 5) hv hc hL ex648 (by omega) (by decide), ?_⟩
  intro x649 ex649
  intro x650 ex650
  refine ⟨sc_in (j := 6) hv hc hL ex650 (by omega) (by decide), ?_⟩
  intro x651 ex651
  refine ⟨o2, ?_⟩
  refine ⟨by show _ ≤ 601024; omega, by show _ ≤ 7293034; omega, ?_⟩
  refine mz_X11_first hI o2 (fun x653 S652 hJ g654 fc655 Kg654 nf2 kz => ?_)
  have wr := wr_keep hI o2 wr kz.1 kz.2 fc655 (by decide) (by decide) (by decide)
  have tp := tt_fri tp o1 o2 Kg654 fc655 (by decide) (by decide) (by decide) (by decide)
  have fa := fa_fri fa o1 o2 fc655 (by decide) (by decide)
  have wh := wh_set nf1 fc655 (by decide) nf2
  have hI := hJ
  have l3 := (gr_len g654 o3).trans l3
  have o1 := gr_ob g654 o1
  have o2 := gr_ob g654 o2
  have o3 := gr_ob g654 o3
  intro _
  unfold P_L_law_2341
  intro x656 ex656
  have back := hb x656 ex656
  exact back _ _ _ hI o1 o2 o3 l3 tp fa wh ⟨AA, GG, wr, gb⟩ (by omega) (by omega)
set_option maxHeartbeats 4000000 in
set_option maxRecDepth 20000 in
theorem a_L_law_1436 {scL : Nat} {scx : Nat → Int32} {Q : Int32 → HS → Prop} {X23 : Nat → Nat → Nat → Int32 → Nat → Nat → HS → Prop} {v1 v2 v3 : Nat} {v4 : Int32} {kk nn : Nat} {S : HS} {c : Nat} (hL : scL ≤ 4096) (hc : 8 * c + 8 ≤ scL) (hb : ∀ x : Int32, x = v4 + (8 : Int32) → ∀ (kk nn : Nat) (T : HS), IV T → ob T v1 9 → ob T v2 11 → ob T v3 14 → hN T v3 = 1 → TT v1 v2 T → fI T v1 7 = fI T v2 13 → WH v1 v2 T → WRy v1 v2 T → kk ≤ 200 + 35 * (c + 1) → nn ≤ 13000 + 8200 * (c + 1) → X23 v1 v2 v3 x kk nn T) (h : LI v1 v2 v3 v4 kk nn S c) : P_L_law_1436 scL scx Q X23 v1 v2 v3 v4 kk nn S := by
  obtain ⟨hI, o1, o2, o3, l3, tp, fa, wh, wr, hv, hk, hn⟩ := h
  obtain ⟨AA, GG, wr, gb⟩ := wr
  unfold P_L_law_1436
  intro x657 ex657
  refine ⟨sc_in (j := 1) hv hc hL ex657 (by omega) (by decide), ?_⟩
  intro x658 ex658
  intro x659 ex659
  refine ⟨sc_in (j := 2) hv hc hL ex659 (by omega) (by decide), ?_⟩
  intro x660 ex660
  intro x661 ex661
  refine ⟨sc_in (j := 3) hv hc hL ex661 (by omega) (by decide), ?_⟩
  intro x662 ex662
  intro x663 ex663
  refine ⟨sc_in (j := 4) hv hc hL ex663 (by omega) (by decide), ?_⟩
  intro x664 ex664
  intro x665 ex665
  refine ⟨sc_in (j := 5) hv hc hL ex665 (by omega) (by decide), ?_⟩
  intro x666 ex666
  intro x667 ex667
  refine ⟨sc_in (j := 6) hv hc hL ex667 (by omega) (by decide), ?_⟩
  intro x668 ex668
  refine ⟨fun c669 => ?_, fun c669 => ?_⟩
  · unfold P_L_law_1482
    refine ⟨o1, ?_⟩
    refine ⟨by show _ ≤ 601024; omega, by show _ ≤ 7293034; omega, ?_⟩
    refine mz_X9_least hI o1 (fun x671 S670 hJ g672 fc673 Kg672 nf1 kz => ?_)
    have wr := wr_keep hI o2 wr kz.1 kz.2 fc673 (by decide) (by decide) (by decide)
    have tp := tt_fri tp o1 o2 Kg672 fc673 (by decide) (by decide) (by decide) (by decide)
    have fa := fa_fri fa o1 o2 fc673 (by decide) (by decide)
    have hI := hJ
    have l3 := (gr_len g672 o3).trans l3
    have o1 := gr_ob g672 o1
    have o2 := gr_ob g672 o2
    have o3 := gr_ob g672 o3
    intro _
    intro x674 ex674
    refine ⟨sc_in (j := 1) hv hc hL ex674 (by omega) (by decide), ?_⟩
    intro x675 ex675
    intro x676 ex676
    refine ⟨sc_in (j := 2) hv hc hL ex676 (by omega) (by decide), ?_⟩
    intro x677 ex677
    intro x678 ex678
    refine ⟨sc_in (j := 3) hv hc hL ex678 (by omega) (by decide), ?_⟩
    intro x679 ex679
    intro x680 ex680
    refine ⟨sc_in (j := 4) hv hc hL ex680 (by omega) (by decide), ?_⟩
    intro x681 ex681
    intro x682 ex682
    refine ⟨sc_in (j := 5) hv hc hL ex682 (by omega) (by decide), ?_⟩
    intro x683 ex683
    intro x684 ex684
    refine ⟨sc_in (j := 6) hv hc hL ex684 (by omega) (by decide), ?_⟩
    intro x685 ex685
    refine ⟨fun c686 => ?_, fun c686 => ?_⟩
    · unfold P_L_law_1532
      refine ⟨o2, ?_⟩
      refine ⟨by show _ ≤ 601024; omega, by show _ ≤ 7293034; omega, ?_⟩
      refine mz_X11_least hI o2 (fun x688 S687 hJ g689 fc690 Kg689 nf2 kz => ?_)
      have wr := wr_keep hI o2 wr kz.1 kz.2 fc690 (by decide) (by decide) (by decide)
      have tp := tt_fri tp o1 o2 Kg689 fc690 (by decide) (by decide) (by decide) (by decide)
      have fa := fa_fri fa o1 o2 fc690 (by decide) (by decide)
      have wh := wh_set nf1 fc690 (by decide) nf2
      have hI := hJ
      have l3 := (gr_len g689 o3).trans l3
      have o1 := gr_ob g689 o1
      have o2 := gr_ob g689 o2
      have o3 := gr_ob g689 o3
      intro _
      unfold P_L_law_2341
      intro x691 ex691
      have back := hb x691 ex691
      exact back _ _ _ hI o1 o2 o3 l3 tp fa wh ⟨AA, GG, wr, gb⟩ (by omega) (by omega)
    · unfold P_L_law_1532
      refine ⟨o2, ?_⟩
      refine ⟨by show _ ≤ 601024; omega, by show _ ≤ 7293034; omega, ?_⟩
      refine mz_X11_least hI o2 (fun x693 S692 hJ g694 fc695 Kg694 nf2 kz => ?_)
      have wr := wr_keep hI o2 wr kz.1 kz.2 fc695 (by decide) (by decide) (by decide)
      have tp := tt_fri tp o1 o2 Kg694 fc695 (by decide) (by decide) (by decide) (by decide)
      have fa := fa_fri fa o1 o2 fc695 (by decide) (by decide)
      have wh := wh_set nf1 fc695 (by decide) nf2
      have hI := hJ
      have l3 := (gr_len g694 o3).trans l3
      have o1 := gr_ob g694 o1
      have o2 := gr_ob g694 o2
      have o3 := gr_ob g694 o3
      intro _
      unfold P_L_law_2341
      intro x696 ex696
      have back := hb x696 ex696
      exact back _ _ _ hI o1 o2 o3 l3 tp fa wh ⟨AA, GG, wr, gb⟩ (by omega) (by omega)
  · unfold P_L_law_1482
    refine ⟨o1, ?_⟩
    refine ⟨by show _ ≤ 601024; omega, by show _ ≤ 7293034; omega, ?_⟩
    refine mz_X9_least hI o1 (fun x698 S697 hJ g699 fc700 Kg699 nf1 kz => ?_)
    have wr := wr_keep hI o2 wr kz.1 kz.2 fc700 (by decide) (by decide) (by decide)
    have tp := tt_fri tp o1 o2 Kg699 fc700 (by decide) (by decide) (by decide) (by decide)
    have fa := fa_fri fa o1 o2 fc700 (by decide) (by decide)
    have hI := hJ
    have l3 := (gr_len g699 o3).trans l3
    have o1 := gr_ob g699 o1
    have o2 := gr_ob g699 o2
    have o3 := gr_ob g699 o3
    intro _
    intro x701 ex701
    refine ⟨sc_in (j := 1) hv hc hL ex701 (by omega) (by decide), ?_⟩
    intro x702 ex702
    intro x703 ex703
    refine ⟨sc_in (j := 2) hv hc hL ex703 (by omega) (by decide), ?_⟩
    intro x704 ex704
    intro x705 ex705
    refine ⟨sc_in (j := 3) hv hc hL ex705 (by omega) (by decide), ?_⟩
    intro x706 ex706
    intro x707 ex707
    refine ⟨sc_in (j := 4) hv hc hL ex707 (by omega) (by decide), ?_⟩
    intro x708 ex708
    intro x709 ex709
    refine ⟨sc_in (j := 5) hv hc hL ex709 (by omega) (by decide), ?_⟩
    intro x710 ex710
    intro x711 ex711
    refine ⟨sc_in (j := 6) hv hc hL ex711 (by omega) (by decide), ?_⟩
    intro x712 ex712
    refine ⟨fun c713 => ?_, fun c713 => ?_⟩
    · unfold P_L_law_1532
      refine ⟨o2, ?_⟩
      refine ⟨by show _ ≤ 601024; omega, by show _ ≤ 7293034; omega, ?_⟩
      refine mz_X11_least hI o2 (fun x715 S714 hJ g716 fc717 Kg716 nf2 kz => ?_)
      have wr := wr_keep hI o2 wr kz.1 kz.2 fc717 (by decide) (by decide) (by decide)
      have tp := tt_fri tp o1 o2 Kg716 fc717 (by decide) (by decide) (by decide) (by decide)
      have fa := fa_fri fa o1 o2 fc717 (by decide) (by decide)
      have wh := wh_set nf1 fc717 (by decide) nf2
      have hI := hJ
      have l3 := (gr_len g716 o3).trans l3
      have o1 := gr_ob g716 o1
      have o2 := gr_ob g716 o2
      have o3 := gr_ob g716 o3
      intro _
      unfold P_L_law_2341
      intro x718 ex718
      have back := hb x718 ex718
      exact back _ _ _ hI o1 o2 o3 l3 tp fa wh ⟨AA, GG, wr, gb⟩ (by omega) (by omega)
    · unfold P_L_law_1532
      refine ⟨o2, ?_⟩
      refine ⟨by show _ ≤ 601024; omega, by show _ ≤ 7293034; omega, ?_⟩
      refine mz_X11_least hI o2 (fun x720 S719 hJ g721 fc722 Kg721 nf2 kz => ?_)
      have wr := wr_keep hI o2 wr kz.1 kz.2 fc722 (by decide) (by decide) (by decide)
      have tp := tt_fri tp o1 o2 Kg721 fc722 (by decide) (by decide) (by decide) (by decide)
      have fa := fa_fri fa o1 o2 fc722 (by decide) (by decide)
      have wh := wh_set nf1 fc722 (by decide) nf2
      have hI := hJ
      have l3 := (gr_len g721 o3).trans l3
      have o1 := gr_ob g721 o1
      have o2 := gr_ob g721 o2
      have o3 := gr_ob g721 o3
      intro _
      unfold P_L_law_2341
      intro x723 ex723
      have back := hb x723 ex723
      exact back _ _ _ hI o1 o2 o3 l3 tp fa wh ⟨AA, GG, wr, gb⟩ (by omega) (by omega)
set_option maxHeartbeats 4000000 in
set_option maxRecDepth 20000 in
theorem a_L_law_1539 {scL : Nat} {scx : Nat → Int32} {Q : Int32 → HS → Prop} {X23 : Nat → Nat → Nat → Int32 → Nat → Nat → HS → Prop} {v1 v2 v3 : Nat} {v4 : Int32} {kk nn : Nat} {S : HS} {c : Nat} (hL : scL ≤ 4096) (hc : 8 * c + 8 ≤ scL) (hb : ∀ x : Int32, x = v4 + (8 : Int32) → ∀ (kk nn : Nat) (T : HS), IV T → ob T v1 9 → ob T v2 11 → ob T v3 14 → hN T v3 = 1 → TT v1 v2 T → fI T v1 7 = fI T v2 13 → WH v1 v2 T → WRy v1 v2 T → kk ≤ 200 + 35 * (c + 1) → nn ≤ 13000 + 8200 * (c + 1) → X23 v1 v2 v3 x kk nn T) (h : LI v1 v2 v3 v4 kk nn S c) : P_L_law_1539 scL scx Q X23 v1 v2 v3 v4 kk nn S := by
  obtain ⟨hI, o1, o2, o3, l3, tp, fa, wh, wr, hv, hk, hn⟩ := h
  obtain ⟨AA, GG, wr, gb⟩ := wr
  unfold P_L_law_1539
  intro x724 ex724
  refine ⟨sc_in (j := 1) hv hc hL ex724 (by omega) (by decide), ?_⟩
  intro x725 ex725
  intro x726 ex726
  refine ⟨sc_in (j := 2) hv hc hL ex726 (by omega) (by decide), ?_⟩
  intro x727 ex727
  intro x728 ex728
  refine ⟨sc_in (j := 3) hv hc hL ex728 (by omega) (by decide), ?_⟩
  intro x729 ex729
  intro x730 ex730
  refine ⟨sc_in (j := 4) hv hc hL ex730 (by omega) (by decide), ?_⟩
  intro x731 ex731
  intro x732 ex732
  refine ⟨sc_in (j := 5) hv hc hL ex732 (by omega) (by decide), ?_⟩
  intro x733 ex733
  refine ⟨o1, ?_⟩
  refine ⟨by show _ ≤ 601024; omega, by show _ ≤ 7293034; omega, ?_⟩
  refine mz_X9_there hI o1 (fun x735 S734 hJ g736 fc737 Kg736 nf1 kz => ?_)
  have wr := wr_keep hI o2 wr kz.1 kz.2 fc737 (by decide) (by decide) (by decide)
  have tp := tt_fri tp o1 o2 Kg736 fc737 (by decide) (by decide) (by decide) (by decide)
  have fa := fa_fri fa o1 o2 fc737 (by decide) (by decide)
  have hI := hJ
  have l3 := (gr_len g736 o3).trans l3
  have o1 := gr_ob g736 o1
  have o2 := gr_ob g736 o2
  have o3 := gr_ob g736 o3
  intro _
  intro x738 ex738
  refine ⟨sc_in (j := 1) hv hc hL ex738 (by omega) (by decide), ?_⟩
  intro x739 ex739
  intro x740 ex740
  refine ⟨sc_in (j := 2) hv hc hL ex740 (by omega) (by decide), ?_⟩
  intro x741 ex741
  intro x742 ex742
  refine ⟨sc_in (j := 3) hv hc hL ex742 (by omega) (by decide), ?_⟩
  intro x743 ex743
  intro x744 ex744
  refine ⟨sc_in (j := 4) hv hc hL ex744 (by omega) (by decide), ?_⟩
  intro x745 ex745
  intro x746 ex746
  refine ⟨sc_in (j := 5) hv hc hL ex746 (by omega) (by decide), ?_⟩
  intro x747 ex747
  refine ⟨o2, ?_⟩
  refine ⟨by show _ ≤ 601024; omega, by show _ ≤ 7293034; omega, ?_⟩
  refine mz_X11_there hI o2 (fun x749 S748 hJ g750 fc751 Kg750 nf2 kz => ?_)
  have wr := wr_keep hI o2 wr kz.1 kz.2 fc751 (by decide) (by decide) (by decide)
  have tp := tt_fri tp o1 o2 Kg750 fc751 (by decide) (by decide) (by decide) (by decide)
  have fa := fa_fri fa o1 o2 fc751 (by decide) (by decide)
  have wh := wh_set nf1 fc751 (by decide) nf2
  have hI := hJ
  have l3 := (gr_len g750 o3).trans l3
  have o1 := gr_ob g750 o1
  have o2 := gr_ob g750 o2
  have o3 := gr_ob g750 o3
  intro _
  unfold P_L_law_2341
  intro x752 ex752
  have back := hb x752 ex752
  exact back _ _ _ hI o1 o2 o3 l3 tp fa wh ⟨AA, GG, wr, gb⟩ (by omega) (by omega)
set_option maxHeartbeats 4000000 in
set_option maxRecDepth 20000 in
theorem a_L_law_1612 {scL : Nat} {scx : Nat → Int32} {Q : Int32 → HS → Prop} {X23 : Nat → Nat → Nat → Int32 → Nat → Nat → HS → Prop} {v1 v2 v3 : Nat} {v4 : Int32} {kk nn : Nat} {S : HS} {c : Nat} (hL : scL ≤ 4096) (hc : 8 * c + 8 ≤ scL) (hb : ∀ x : Int32, x = v4 + (8 : Int32) → ∀ (kk nn : Nat) (T : HS), IV T → ob T v1 9 → ob T v2 11 → ob T v3 14 → hN T v3 = 1 → TT v1 v2 T → fI T v1 7 = fI T v2 13 → WH v1 v2 T → WRy v1 v2 T → kk ≤ 200 + 35 * (c + 1) → nn ≤ 13000 + 8200 * (c + 1) → X23 v1 v2 v3 x kk nn T) (h : LI v1 v2 v3 v4 kk nn S c) : P_L_law_1612 scL scx Q X23 v1 v2 v3 v4 kk nn S := by
  obtain ⟨hI, o1, o2, o3, l3, tp, fa, wh, wr, hv, hk, hn⟩ := h
  obtain ⟨AA, GG, wr, gb⟩ := wr
  unfold P_L_law_1612
  intro x753 ex753
  refine ⟨sc_in (j := 1) hv hc hL ex753 (by omega) (by decide), ?_⟩
  intro x754 ex754
  intro x755 ex755
  refine ⟨sc_in (j := 2) hv hc hL ex755 (by omega) (by decide), ?_⟩
  intro x756 ex756
  intro x757 ex757
  refine ⟨sc_in (j := 3) hv hc hL ex757 (by omega) (by decide), ?_⟩
  intro x758 ex758
  intro x759 ex759
  refine ⟨sc_in (j := 4) hv hc hL ex759 (by omega) (by decide), ?_⟩
  intro x760 ex760
  intro x761 ex761
  refine ⟨sc_in (j := 5) hv hc hL ex761 (by omega) (by decide), ?_⟩
  intro x762 ex762
  refine ⟨o1, ?_⟩
  refine ⟨by show _ ≤ 601024; omega, by show _ ≤ 7293034; omega, ?_⟩
  refine mz_X9_steps hI o1 (fun x764 S763 hJ g765 fc766 Kg765 nf1 kz => ?_)
  have wr := wr_keep hI o2 wr kz.1 kz.2 fc766 (by decide) (by decide) (by decide)
  have tp := tt_fri tp o1 o2 Kg765 fc766 (by decide) (by decide) (by decide) (by decide)
  have fa := fa_fri fa o1 o2 fc766 (by decide) (by decide)
  have hI := hJ
  have l3 := (gr_len g765 o3).trans l3
  have o1 := gr_ob g765 o1
  have o2 := gr_ob g765 o2
  have o3 := gr_ob g765 o3
  intro _
  intro x767 ex767
  refine ⟨sc_in (j := 1) hv hc hL ex767 (by omega) (by decide), ?_⟩
  intro x768 ex768
  intro x769 ex769
  refine ⟨sc_in (j := 2) hv hc hL ex769 (by omega) (by decide), ?_⟩
  intro x770 ex770
  intro x771 ex771
  refine ⟨sc_in (j := 3) hv hc hL ex771 (by omega) (by decide), ?_⟩
  intro x772 ex772
  intro x773 ex773
  refine ⟨sc_in (j := 4) hv hc hL ex773 (by omega) (by decide), ?_⟩
  intro x774 ex774
  intro x775 ex775
  refine ⟨sc_in (j := 5) hv hc hL ex775 (by omega) (by decide), ?_⟩
  intro x776 ex776
  refine ⟨o2, ?_⟩
  refine ⟨by show _ ≤ 601024; omega, by show _ ≤ 7293034; omega, ?_⟩
  refine mz_X11_steps hI o2 (fun x778 S777 hJ g779 fc780 Kg779 nf2 kz => ?_)
  have wr := wr_keep hI o2 wr kz.1 kz.2 fc780 (by decide) (by decide) (by decide)
  have tp := tt_fri tp o1 o2 Kg779 fc780 (by decide) (by decide) (by decide) (by decide)
  have fa := fa_fri fa o1 o2 fc780 (by decide) (by decide)
  have wh := wh_set nf1 fc780 (by decide) nf2
  have hI := hJ
  have l3 := (gr_len g779 o3).trans l3
  have o1 := gr_ob g779 o1
  have o2 := gr_ob g779 o2
  have o3 := gr_ob g779 o3
  intro _
  unfold P_L_law_2341
  intro x781 ex781
  have back := hb x781 ex781
  exact back _ _ _ hI o1 o2 o3 l3 tp fa wh ⟨AA, GG, wr, gb⟩ (by omega) (by omega)
set_option maxHeartbeats 4000000 in
set_option maxRecDepth 20000 in
theorem a_L_law_1685 {scL : Nat} {scx : Nat → Int32} {Q : Int32 → HS → Prop} {X23 : Nat → Nat → Nat → Int32 → Nat → Nat → HS → Prop} {v1 v2 v3 : Nat} {v4 : Int32} {kk nn : Nat} {S : HS} {c : Nat} (hL : scL ≤ 4096) (hc : 8 * c + 8 ≤ scL) (hb : ∀ x : Int32, x = v4 + (8 : Int32) → ∀ (kk nn : Nat) (T : HS), IV T → ob T v1 9 → ob T v2 11 → ob T v3 14 → hN T v3 = 1 → TT v1 v2 T → fI T v1 7 = fI T v2 13 → WH v1 v2 T → WRy v1 v2 T → kk ≤ 200 + 35 * (c + 1) → nn ≤ 13000 + 8200 * (c + 1) → X23 v1 v2 v3 x kk nn T) (h : LI v1 v2 v3 v4 kk nn S c) : P_L_law_1685 scL scx Q X23 v1 v2 v3 v4 kk nn S := by
  obtain ⟨hI, o1, o2, o3, l3, tp, fa, wh, wr, hv, hk, hn⟩ := h
  obtain ⟨AA, GG, wr, gb⟩ := wr
  unfold P_L_law_1685
  intro x782 ex782
  refine ⟨sc_in (j := 1) hv hc hL ex782 (by omega) (by decide), ?_⟩
  intro x783 ex783
  intro x784 ex784
  refine ⟨sc_in (j := 2) hv hc hL ex784 (by omega) (by decide), ?_⟩
  intro x785 ex785
  intro x786 ex786
  refine ⟨sc_in (j := 3) hv hc hL ex786 (by omega) (by decide), ?_⟩
  intro x787 ex787
  intro x788 ex788
  refine ⟨sc_in (j := 4) hv hc hL ex788 (by omega) (by decide), ?_⟩
  intro x789 ex789
  intro x790 ex790
  refine ⟨sc_in (j := 5) hv hc hL ex790 (by omega) (by decide), ?_⟩
  intro x791 ex791
  intro x792 ex792
  refine ⟨sc_in (j := 6) hv hc hL ex792 (by omega) (by decide), ?_⟩
  intro x793 ex793
  refine ⟨o1, ?_⟩
  refine ⟨by show _ ≤ 601024; omega, by show _ ≤ 7293034; omega, ?_⟩
  refine mz_X9_step hI o1 (fun x795 S794 hJ g796 fc797 Kg796 nf1 kz => ?_)
  have wr := wr_keep hI o2 wr kz.1 kz.2 fc797 (by decide) (by decide) (by decide)
  have tp := tt_fri tp o1 o2 Kg796 fc797 (by decide) (by decide) (by decide) (by decide)
  have fa := fa_fri fa o1 o2 fc797 (by decide) (by decide)
  have hI := hJ
  have l3 := (gr_len g796 o3).trans l3
  have o1 := gr_ob g796 o1
  have o2 := gr_ob g796 o2
  have o3 := gr_ob g796 o3
  intro _
  intro x798 ex798
  refine ⟨sc_in (j := 1) hv hc hL ex798 (by omega) (by decide), ?_⟩
  intro x799 ex799
  intro x800 ex800
  refine ⟨sc_in (j := 2) hv hc hL ex800 (by omega) (by decide), ?_⟩
  intro x801 ex801
  intro x802 ex802
  refine ⟨sc_in (j := 3) hv hc hL ex802 (by omega) (by decide), ?_⟩
  intro x803 ex803
  intro x804 ex804
  refine ⟨sc_in (j := 4) hv hc hL ex804 (by omega) (by decide), ?_⟩
  intro x805 ex805
  intro x806 ex806
  refine ⟨sc_in (j := 5) hv hc hL ex806 (by omega) (by decide), ?_⟩
  intro x807 ex807
  intro x808 ex808
  refine ⟨sc_in (j := 6) hv hc hL ex808 (by omega) (by decide), ?_⟩
  intro x809 ex809
  refine ⟨o2, ?_⟩
  refine ⟨by show _ ≤ 601024; omega, by show _ ≤ 7293034; omega, ?_⟩
  refine mz_X11_step hI o2 (fun x811 S810 hJ g812 fc813 Kg812 nf2 kz => ?_)
  have wr := wr_keep hI o2 wr kz.1 kz.2 fc813 (by decide) (by decide) (by decide)
  have tp := tt_fri tp o1 o2 Kg812 fc813 (by decide) (by decide) (by decide) (by decide)
  have fa := fa_fri fa o1 o2 fc813 (by decide) (by decide)
  have wh := wh_set nf1 fc813 (by decide) nf2
  have hI := hJ
  have l3 := (gr_len g812 o3).trans l3
  have o1 := gr_ob g812 o1
  have o2 := gr_ob g812 o2
  have o3 := gr_ob g812 o3
  intro _
  unfold P_L_law_2341
  intro x814 ex814
  have back := hb x814 ex814
  exact back _ _ _ hI o1 o2 o3 l3 tp fa wh ⟨AA, GG, wr, gb⟩ (by omega) (by omega)
set_option maxHeartbeats 4000000 in
set_option maxRecDepth 20000 in
theorem a_L_law_1772 {scL : Nat} {scx : Nat → Int32} {Q : Int32 → HS → Prop} {X23 : Nat → Nat → Nat → Int32 → Nat → Nat → HS → Prop} {v1 v2 v3 : Nat} {v4 : Int32} {kk nn : Nat} {S : HS} {c : Nat} (hL : scL ≤ 4096) (hc : 8 * c + 8 ≤ scL) (hb : ∀ x : Int32, x = v4 + (8 : Int32) → ∀ (kk nn : Nat) (T : HS), IV T → ob T v1 9 → ob T v2 11 → ob T v3 14 → hN T v3 = 1 → TT v1 v2 T → fI T v1 7 = fI T v2 13 → WH v1 v2 T → WRy v1 v2 T → kk ≤ 200 + 35 * (c + 1) → nn ≤ 13000 + 8200 * (c + 1) → X23 v1 v2 v3 x kk nn T) (h : LI v1 v2 v3 v4 kk nn S c) : P_L_law_1772 scL scx Q X23 v1 v2 v3 v4 kk nn S := by
  obtain ⟨hI, o1, o2, o3, l3, tp, fa, wh, wr, hv, hk, hn⟩ := h
  obtain ⟨AA, GG, wr, gb⟩ := wr
  unfold P_L_law_1772
  intro x815 ex815
  refine ⟨sc_in (j := 1) hv hc hL ex815 (by omega) (by decide), ?_⟩
  intro x816 ex816
  intro x817 ex817
  refine ⟨sc_in (j := 2) hv hc hL ex817 (by omega) (by decide), ?_⟩
  intro x818 ex818
  intro x819 ex819
  refine ⟨sc_in (j := 3) hv hc hL ex819 (by omega) (by decide), ?_⟩
  intro x820 ex820
  intro x821 ex821
  refine ⟨sc_in (j := 4) hv hc hL ex821 (by omega) (by decide), ?_⟩
  intro x822 ex822
  refine ⟨o1, ?_⟩
  refine ⟨by show _ ≤ 601024; omega, by show _ ≤ 7293034; omega, ?_⟩
  refine mz_X9_off hI o1 (fun x824 S823 hJ g825 fc826 Kg825 nf1 kz => ?_)
  have wr := wr_keep hI o2 wr kz.1 kz.2 fc826 (by decide) (by decide) (by decide)
  have tp := tt_fri tp o1 o2 Kg825 fc826 (by decide) (by decide) (by decide) (by decide)
  have fa := fa_fri fa o1 o2 fc826 (by decide) (by decide)
  have hI := hJ
  have l3 := (gr_len g825 o3).trans l3
  have o1 := gr_ob g825 o1
  have o2 := gr_ob g825 o2
  have o3 := gr_ob g825 o3
  intro _
  intro x827 ex827
  refine ⟨sc_in (j := 1) hv hc hL ex827 (by omega) (by decide), ?_⟩
  intro x828 ex828
  intro x829 ex829
  refine ⟨sc_in (j := 2) hv hc hL ex829 (by omega) (by decide), ?_⟩
  intro x830 ex830
  intro x831 ex831
  refine ⟨sc_in (j := 3) hv hc hL ex831 (by omega) (by decide), ?_⟩
  intro x832 ex832
  intro x833 ex833
  refine ⟨sc_in (j := 4) hv hc hL ex833 (by omega) (by decide), ?_⟩
  intro x834 ex834
  refine ⟨o2, ?_⟩
  refine ⟨by show _ ≤ 601024; omega, by show _ ≤ 7293034; omega, ?_⟩
  refine mz_X11_off hI o2 (fun x836 S835 hJ g837 fc838 Kg837 nf2 kz => ?_)
  have wr := wr_keep hI o2 wr kz.1 kz.2 fc838 (by decide) (by decide) (by decide)
  have tp := tt_fri tp o1 o2 Kg837 fc838 (by decide) (by decide) (by decide) (by decide)
  have fa := fa_fri fa o1 o2 fc838 (by decide) (by decide)
  have wh := wh_set nf1 fc838 (by decide) nf2
  have hI := hJ
  have l3 := (gr_len g837 o3).trans l3
  have o1 := gr_ob g837 o1
  have o2 := gr_ob g837 o2
  have o3 := gr_ob g837 o3
  intro _
  unfold P_L_law_2341
  intro x839 ex839
  have back := hb x839 ex839
  exact back _ _ _ hI o1 o2 o3 l3 tp fa wh ⟨AA, GG, wr, gb⟩ (by omega) (by omega)
set_option maxHeartbeats 4000000 in
set_option maxRecDepth 20000 in
theorem a_L_law_1833 {scL : Nat} {scx : Nat → Int32} {Q : Int32 → HS → Prop} {X23 : Nat → Nat → Nat → Int32 → Nat → Nat → HS → Prop} {v1 v2 v3 : Nat} {v4 : Int32} {kk nn : Nat} {S : HS} {c : Nat} (hL : scL ≤ 4096) (hc : 8 * c + 8 ≤ scL) (hb : ∀ x : Int32, x = v4 + (8 : Int32) → ∀ (kk nn : Nat) (T : HS), IV T → ob T v1 9 → ob T v2 11 → ob T v3 14 → hN T v3 = 1 → TT v1 v2 T → fI T v1 7 = fI T v2 13 → WH v1 v2 T → WRy v1 v2 T → kk ≤ 200 + 35 * (c + 1) → nn ≤ 13000 + 8200 * (c + 1) → X23 v1 v2 v3 x kk nn T) (h : LI v1 v2 v3 v4 kk nn S c) : P_L_law_1833 scL scx Q X23 v1 v2 v3 v4 kk nn S := by
  obtain ⟨hI, o1, o2, o3, l3, tp, fa, wh, wr, hv, hk, hn⟩ := h
  obtain ⟨AA, GG, wr, gb⟩ := wr
  unfold P_L_law_1833
  intro x840 ex840
  refine ⟨sc_in (j := 1) hv hc hL ex840 (by omega) (by decide), ?_⟩
  intro x841 ex841
  refine ⟨o1, ?_⟩
  refine ⟨by show _ ≤ 601024; omega, by show _ ≤ 7293034; omega, ?_⟩
  refine mz_X9_fits hI o1 (fun x843 S842 hJ g844 fc845 Kg844 nf1 kz => ?_)
  have wr := wr_keep hI o2 wr kz.1 kz.2 fc845 (by decide) (by decide) (by decide)
  have tp := tt_fri tp o1 o2 Kg844 fc845 (by decide) (by decide) (by decide) (by decide)
  have fa := fa_fri fa o1 o2 fc845 (by decide) (by decide)
  have hI := hJ
  have l3 := (gr_len g844 o3).trans l3
  have o1 := gr_ob g844 o1
  have o2 := gr_ob g844 o2
  have o3 := gr_ob g844 o3
  intro _
  intro x846 ex846
  refine ⟨sc_in (j := 1) hv hc hL ex846 (by omega) (by decide), ?_⟩
  intro x847 ex847
  refine ⟨o2, ?_⟩
  refine ⟨by show _ ≤ 601024; omega, by show _ ≤ 7293034; omega, ?_⟩
  refine mz_X11_fits hI o2 (fun x849 S848 hJ g850 fc851 Kg850 nf2 kz => ?_)
  have wr := wr_keep hI o2 wr kz.1 kz.2 fc851 (by decide) (by decide) (by decide)
  have tp := tt_fri tp o1 o2 Kg850 fc851 (by decide) (by decide) (by decide) (by decide)
  have fa := fa_fri fa o1 o2 fc851 (by decide) (by decide)
  have wh := wh_set nf1 fc851 (by decide) nf2
  have hI := hJ
  have l3 := (gr_len g850 o3).trans l3
  have o1 := gr_ob g850 o1
  have o2 := gr_ob g850 o2
  have o3 := gr_ob g850 o3
  intro _
  unfold P_L_law_2341
  intro x852 ex852
  have back := hb x852 ex852
  exact back _ _ _ hI o1 o2 o3 l3 tp fa wh ⟨AA, GG, wr, gb⟩ (by omega) (by omega)
set_option maxHeartbeats 4000000 in
set_option maxRecDepth 20000 in
theorem a_L_law_1858 {scL : Nat} {scx : Nat → Int32} {Q : Int32 → HS → Prop} {X23 : Nat → Nat → Nat → Int32 → Nat → Nat → HS → Prop} {v1 v2 v3 : Nat} {v4 : Int32} {kk nn : Nat} {S : HS} {c : Nat} (hL : scL ≤ 4096) (hc : 8 * c + 8 ≤ scL) (hb : ∀ x : Int32, x = v4 + (8 : Int32) → ∀ (kk nn : Nat) (T : HS), IV T → ob T v1 9 → ob T v2 11 → ob T v3 14 → hN T v3 = 1 → TT v1 v2 T → fI T v1 7 = fI T v2 13 → WH v1 v2 T → WRy v1 v2 T → kk ≤ 200 + 35 * (c + 1) → nn ≤ 13000 + 8200 * (c + 1) → X23 v1 v2 v3 x kk nn T) (h : LI v1 v2 v3 v4 kk nn S c) : P_L_law_1858 scL scx Q X23 v1 v2 v3 v4 kk nn S := by
  obtain ⟨hI, o1, o2, o3, l3, tp, fa, wh, wr, hv, hk, hn⟩ := h
  obtain ⟨AA, GG, wr, gb⟩ := wr
  unfold P_L_law_1858
  intro x853 ex853
  refine ⟨sc_in (j := 1) hv hc hL ex853 (by omega) (by decide), ?_⟩
  intro x854 ex854
  intro x855 ex855
  refine ⟨sc_in (j := 2) hv hc hL ex855 (by omega) (by decide), ?_⟩
  intro x856 ex856
  refine ⟨o1, ?_⟩
  refine ⟨by show _ ≤ 601024; omega, by show _ ≤ 7293034; omega, ?_⟩
  refine mz_X9_fit hI o1 (fun x858 S857 hJ g859 fc860 Kg859 nf1 kz => ?_)
  have wr := wr_keep hI o2 wr kz.1 kz.2 fc860 (by decide) (by decide) (by decide)
  have tp := tt_fri tp o1 o2 Kg859 fc860 (by decide) (by decide) (by decide) (by decide)
  have fa := fa_fri fa o1 o2 fc860 (by decide) (by decide)
  have hI := hJ
  have l3 := (gr_len g859 o3).trans l3
  have o1 := gr_ob g859 o1
  have o2 := gr_ob g859 o2
  have o3 := gr_ob g859 o3
  intro _
  intro x861 ex861
  refine ⟨sc_in (j := 1) hv hc hL ex861 (by omega) (by decide), ?_⟩
  intro x862 ex862
  intro x863 ex863
  refine ⟨sc_in (j := 2) hv hc hL ex863 (by omega) (by decide), ?_⟩
  intro x864 ex864
  refine ⟨o2, ?_⟩
  refine ⟨by show _ ≤ 601024; omega, by show _ ≤ 7293034; omega, ?_⟩
  refine mz_X11_fit hI o2 (fun x866 S865 hJ g867 fc868 Kg867 nf2 kz => ?_)
  have wr := wr_keep hI o2 wr kz.1 kz.2 fc868 (by decide) (by decide) (by decide)
  have tp := tt_fri tp o1 o2 Kg867 fc868 (by decide) (by decide) (by decide) (by decide)
  have fa := fa_fri fa o1 o2 fc868 (by decide) (by decide)
  have wh := wh_set nf1 fc868 (by decide) nf2
  have hI := hJ
  have l3 := (gr_len g867 o3).trans l3
  have o1 := gr_ob g867 o1
  have o2 := gr_ob g867 o2
  have o3 := gr_ob g867 o3
  intro _
  unfold P_L_law_2341
  intro x869 ex869
  have back := hb x869 ex869
  exact back _ _ _ hI o1 o2 o3 l3 tp fa wh ⟨AA, GG, wr, gb⟩ (by omega) (by omega)
set_option maxHeartbeats 4000000 in
set_option maxRecDepth 20000 in
theorem a_L_law_1895 {scL : Nat} {scx : Nat → Int32} {Q : Int32 → HS → Prop} {X23 : Nat → Nat → Nat → Int32 → Nat → Nat → HS → Prop} {v1 v2 v3 : Nat} {v4 : Int32} {kk nn : Nat} {S : HS} {c : Nat} (hL : scL ≤ 4096) (hc : 8 * c + 8 ≤ scL) (hb : ∀ x : Int32, x = v4 + (8 : Int32) → ∀ (kk nn : Nat) (T : HS), IV T → ob T v1 9 → ob T v2 11 → ob T v3 14 → hN T v3 = 1 → TT v1 v2 T → fI T v1 7 = fI T v2 13 → WH v1 v2 T → WRy v1 v2 T → kk ≤ 200 + 35 * (c + 1) → nn ≤ 13000 + 8200 * (c + 1) → X23 v1 v2 v3 x kk nn T) (h : LI v1 v2 v3 v4 kk nn S c) : P_L_law_1895 scL scx Q X23 v1 v2 v3 v4 kk nn S := by
  obtain ⟨hI, o1, o2, o3, l3, tp, fa, wh, wr, hv, hk, hn⟩ := h
  obtain ⟨AA, GG, wr, gb⟩ := wr
  unfold P_L_law_1895
  refine ⟨o1, ?_⟩
  refine ⟨by show _ ≤ 601024; omega, by show _ ≤ 7293034; omega, ?_⟩
  refine mz_X9_lies hI o1 (fun x871 S870 hJ g872 fc873 Kg872 nf1 kz => ?_)
  have wr := wr_keep hI o2 wr kz.1 kz.2 fc873 (by decide) (by decide) (by decide)
  have tp := tt_fri tp o1 o2 Kg872 fc873 (by decide) (by decide) (by decide) (by decide)
  have fa := fa_fri fa o1 o2 fc873 (by decide) (by decide)
  have hI := hJ
  have l3 := (gr_len g872 o3).trans l3
  have o1 := gr_ob g872 o1
  have o2 := gr_ob g872 o2
  have o3 := gr_ob g872 o3
  intro _
  refine ⟨o2, ?_⟩
  refine ⟨by show _ ≤ 601024; omega, by show _ ≤ 7293034; omega, ?_⟩
  refine mz_X11_lies hI o2 (fun x875 S874 hJ g876 fc877 Kg876 nf2 kz => ?_)
  have wr := wr_keep hI o2 wr kz.1 kz.2 fc877 (by decide) (by decide) (by decide)
  have tp := tt_fri tp o1 o2 Kg876 fc877 (by decide) (by decide) (by decide) (by decide)
  have fa := fa_fri fa o1 o2 fc877 (by decide) (by decide)
  have wh := wh_set nf1 fc877 (by decide) nf2
  have hI := hJ
  have l3 := (gr_len g876 o3).trans l3
  have o1 := gr_ob g876 o1
  have o2 := gr_ob g876 o2
  have o3 := gr_ob g876 o3
  intro _
  unfold P_L_law_2341
  intro x878 ex878
  have back := hb x878 ex878
  exact back _ _ _ hI o1 o2 o3 l3 tp fa wh ⟨AA, GG, wr, gb⟩ (by omega) (by omega)
set_option maxHeartbeats 4000000 in
set_option maxRecDepth 20000 in
theorem a_L_law_1908 {scL : Nat} {scx : Nat → Int32} {Q : Int32 → HS → Prop} {X23 : Nat → Nat → Nat → Int32 → Nat → Nat → HS → Prop} {v1 v2 v3 : Nat} {v4 : Int32} {kk nn : Nat} {S : HS} {c : Nat} (hL : scL ≤ 4096) (hc : 8 * c + 8 ≤ scL) (hb : ∀ x : Int32, x = v4 + (8 : Int32) → ∀ (kk nn : Nat) (T : HS), IV T → ob T v1 9 → ob T v2 11 → ob T v3 14 → hN T v3 = 1 → TT v1 v2 T → fI T v1 7 = fI T v2 13 → WH v1 v2 T → WRy v1 v2 T → kk ≤ 200 + 35 * (c + 1) → nn ≤ 13000 + 8200 * (c + 1) → X23 v1 v2 v3 x kk nn T) (h : LI v1 v2 v3 v4 kk nn S c) : P_L_law_1908 scL scx Q X23 v1 v2 v3 v4 kk nn S := by
  obtain ⟨hI, o1, o2, o3, l3, tp, fa, wh, wr, hv, hk, hn⟩ := h
  obtain ⟨AA, GG, wr, gb⟩ := wr
  unfold P_L_law_1908
  intro x879 ex879
  refine ⟨sc_in (j := 1) hv hc hL ex879 (by omega) (by decide), ?_⟩
  intro x880 ex880
  intro x881 ex881
  refine ⟨sc_in (j := 2) hv hc hL ex881 (by omega) (by decide), ?_⟩
  intro x882 ex882
  intro x883 ex883
  refine ⟨sc_in (j := 3) hv hc hL ex883 (by omega) (by decide), ?_⟩
  intro x884 ex884
  intro x885 ex885
  refine ⟨sc_in (j := 4) hv hc hL ex885 (by omega) (by decide), ?_⟩
  intro x886 ex886
  refine ⟨o1, ?_⟩
  refine ⟨by show _ ≤ 601024; omega, by show _ ≤ 7293034; omega, ?_⟩
  refine mz_X9_day hI o1 (fun x888 S887 hJ g889 fc890 Kg889 nf1 kz => ?_)
  have wr := wr_keep hI o2 wr kz.1 kz.2 fc890 (by decide) (by decide) (by decide)
  have tp := tt_fri tp o1 o2 Kg889 fc890 (by decide) (by decide) (by decide) (by decide)
  have fa := fa_fri fa o1 o2 fc890 (by decide) (by decide)
  have hI := hJ
  have l3 := (gr_len g889 o3).trans l3
  have o1 := gr_ob g889 o1
  have o2 := gr_ob g889 o2
  have o3 := gr_ob g889 o3
  intro _
  intro x891 ex891
  refine ⟨sc_in (j := 1) hv hc hL ex891 (by omega) (by decide), ?_⟩
  intro x892 ex892
  intro x893 ex893
  refine ⟨sc_in (j := 2) hv hc hL ex893 (by omega) (by decide), ?_⟩
  intro x894 ex894
  intro x895 ex895
  refine ⟨sc_in (j := 3) hv hc hL ex895 (by omega) (by decide), ?_⟩
  intro x896 ex896
  intro x897 ex897
  refine ⟨sc_in (j := 4) hv hc hL ex897 (by omega) (by decide), ?_⟩
  intro x898 ex898
  refine ⟨o2, ?_⟩
  refine ⟨by show _ ≤ 601024; omega, by show _ ≤ 7293034; omega, ?_⟩
  refine mz_X11_day hI o2 (fun x900 S899 hJ g901 fc902 Kg901 nf2 kz => ?_)
  have wr := wr_keep hI o2 wr kz.1 kz.2 fc902 (by decide) (by decide) (by decide)
  have tp := tt_fri tp o1 o2 Kg901 fc902 (by decide) (by decide) (by decide) (by decide)
  have fa := fa_fri fa o1 o2 fc902 (by decide) (by decide)
  have wh := wh_set nf1 fc902 (by decide) nf2
  have hI := hJ
  have l3 := (gr_len g901 o3).trans l3
  have o1 := gr_ob g901 o1
  have o2 := gr_ob g901 o2
  have o3 := gr_ob g901 o3
  intro _
  unfold P_L_law_2341
  intro x903 ex903
  have back := hb x903 ex903
  exact back _ _ _ hI o1 o2 o3 l3 tp fa wh ⟨AA, GG, wr, gb⟩ (by omega) (by omega)
set_option maxHeartbeats 4000000 in
set_option maxRecDepth 20000 in
theorem a_L_law_1969 {scL : Nat} {scx : Nat → Int32} {Q : Int32 → HS → Prop} {X23 : Nat → Nat → Nat → Int32 → Nat → Nat → HS → Prop} {v1 v2 v3 : Nat} {v4 : Int32} {kk nn : Nat} {S : HS} {c : Nat} (hL : scL ≤ 4096) (hc : 8 * c + 8 ≤ scL) (hb : ∀ x : Int32, x = v4 + (8 : Int32) → ∀ (kk nn : Nat) (T : HS), IV T → ob T v1 9 → ob T v2 11 → ob T v3 14 → hN T v3 = 1 → TT v1 v2 T → fI T v1 7 = fI T v2 13 → WH v1 v2 T → WRy v1 v2 T → kk ≤ 200 + 35 * (c + 1) → nn ≤ 13000 + 8200 * (c + 1) → X23 v1 v2 v3 x kk nn T) (h : LI v1 v2 v3 v4 kk nn S c) : P_L_law_1969 scL scx Q X23 v1 v2 v3 v4 kk nn S := by
  obtain ⟨hI, o1, o2, o3, l3, tp, fa, wh, wr, hv, hk, hn⟩ := h
  obtain ⟨AA, GG, wr, gb⟩ := wr
  unfold P_L_law_1969
  intro x904 ex904
  refine ⟨sc_in (j := 1) hv hc hL ex904 (by omega) (by decide), ?_⟩
  intro x905 ex905
  intro x906 ex906
  refine ⟨sc_in (j := 2) hv hc hL ex906 (by omega) (by decide), ?_⟩
  intro x907 ex907
  intro x908 ex908
  refine ⟨sc_in (j := 3) hv hc hL ex908 (by omega) (by decide), ?_⟩
  intro x909 ex909
  refine ⟨o1, ?_⟩
  refine ⟨by show _ ≤ 601024; omega, by show _ ≤ 7293034; omega, ?_⟩
  refine mz_X9_go hI o1 (fun x911 S910 hJ g912 fc913 Kg912 nf1 kz => ?_)
  have wr := wr_keep hI o2 wr kz.1 kz.2 fc913 (by decide) (by decide) (by decide)
  have tp := tt_fri tp o1 o2 Kg912 fc913 (by decide) (by decide) (by decide) (by decide)
  have fa := fa_fri fa o1 o2 fc913 (by decide) (by decide)
  have hI := hJ
  have l3 := (gr_len g912 o3).trans l3
  have o1 := gr_ob g912 o1
  have o2 := gr_ob g912 o2
  have o3 := gr_ob g912 o3
  intro _
  intro x914 ex914
  refine ⟨sc_in (j := 1) hv hc hL ex914 (by omega) (by decide), ?_⟩
  intro x915 ex915
  intro x916 ex916
  refine ⟨sc_in (j := 2) hv hc hL ex916 (by omega) (by decide), ?_⟩
  intro x917 ex917
  intro x918 ex918
  refine ⟨sc_in (j := 3) hv hc hL ex918 (by omega) (by decide), ?_⟩
  intro x919 ex919
  refine ⟨o2, ?_⟩
  refine ⟨by show _ ≤ 601024; omega, by show _ ≤ 7293034; omega, ?_⟩
  refine mz_X11_go hI o2 (fun x921 S920 hJ g922 fc923 Kg922 nf2 kz => ?_)
  have wr := wr_keep hI o2 wr kz.1 kz.2 fc923 (by decide) (by decide) (by decide)
  have tp := tt_fri tp o1 o2 Kg922 fc923 (by decide) (by decide) (by decide) (by decide)
  have fa := fa_fri fa o1 o2 fc923 (by decide) (by decide)
  have wh := wh_set nf1 fc923 (by decide) nf2
  have hI := hJ
  have l3 := (gr_len g922 o3).trans l3
  have o1 := gr_ob g922 o1
  have o2 := gr_ob g922 o2
  have o3 := gr_ob g922 o3
  intro _
  unfold P_L_law_2341
  intro x924 ex924
  have back := hb x924 ex924
  exact back _ _ _ hI o1 o2 o3 l3 tp fa wh ⟨AA, GG, wr, gb⟩ (by omega) (by omega)
set_option maxHeartbeats 4000000 in
set_option maxRecDepth 20000 in
theorem a_L_law_2018 {scL : Nat} {scx : Nat → Int32} {Q : Int32 → HS → Prop} {X23 : Nat → Nat → Nat → Int32 → Nat → Nat → HS → Prop} {v1 v2 v3 : Nat} {v4 : Int32} {kk nn : Nat} {S : HS} {c : Nat} (hL : scL ≤ 4096) (hc : 8 * c + 8 ≤ scL) (hb : ∀ x : Int32, x = v4 + (8 : Int32) → ∀ (kk nn : Nat) (T : HS), IV T → ob T v1 9 → ob T v2 11 → ob T v3 14 → hN T v3 = 1 → TT v1 v2 T → fI T v1 7 = fI T v2 13 → WH v1 v2 T → WRy v1 v2 T → kk ≤ 200 + 35 * (c + 1) → nn ≤ 13000 + 8200 * (c + 1) → X23 v1 v2 v3 x kk nn T) (h : LI v1 v2 v3 v4 kk nn S c) : P_L_law_2018 scL scx Q X23 v1 v2 v3 v4 kk nn S := by
  obtain ⟨hI, o1, o2, o3, l3, tp, fa, wh, wr, hv, hk, hn⟩ := h
  obtain ⟨AA, GG, wr, gb⟩ := wr
  unfold P_L_law_2018
  intro x925 ex925
  refine ⟨sc_in (j := 1) hv hc hL ex925 (by omega) (by decide), ?_⟩
  intro x926 ex926
  refine ⟨o1, ?_⟩
  refine ⟨by show _ ≤ 601024; omega, by show _ ≤ 7293034; omega, ?_⟩
  refine mz_X9_stay hI o1 (fun x928 S927 hJ g929 fc930 _ Kg929 nf1 kz => ?_)
  have wr := wr_keep hI o2 wr kz.1 kz.2 fc930 (by decide) (by decide) (by decide)
  have tp := tt_fri tp o1 o2 Kg929 fc930 (by decide) (by decide) (by decide) (by decide)
  have fa := fa_fri fa o1 o2 fc930 (by decide) (by decide)
  have hI := hJ
  have l3 := (gr_len g929 o3).trans l3
  have o1 := gr_ob g929 o1
  have o2 := gr_ob g929 o2
  have o3 := gr_ob g929 o3
  intro _ _
  intro x931 ex931
  refine ⟨sc_in (j := 1) hv hc hL ex931 (by omega) (by decide), ?_⟩
  intro x932 ex932
  refine ⟨o2, ?_⟩
  refine ⟨by show _ ≤ 601024; omega, by show _ ≤ 7293034; omega, ?_⟩
  refine mz_X11_stay hI o2 (fun x934 S933 hJ g935 fc936 _ Kg935 nf2 kz => ?_)
  have wr := wr_keep hI o2 wr kz.1 kz.2 fc936 (by decide) (by decide) (by decide)
  have tp := tt_fri tp o1 o2 Kg935 fc936 (by decide) (by decide) (by decide) (by decide)
  have fa := fa_fri fa o1 o2 fc936 (by decide) (by decide)
  have wh := wh_set nf1 fc936 (by decide) nf2
  have hI := hJ
  have l3 := (gr_len g935 o3).trans l3
  have o1 := gr_ob g935 o1
  have o2 := gr_ob g935 o2
  have o3 := gr_ob g935 o3
  intro _ _
  unfold P_L_law_2341
  intro x937 ex937
  have back := hb x937 ex937
  exact back _ _ _ hI o1 o2 o3 l3 tp fa wh ⟨AA, GG, wr, gb⟩ (by omega) (by omega)
set_option maxHeartbeats 4000000 in
set_option maxRecDepth 20000 in
theorem a_L_law_2043 {scL : Nat} {scx : Nat → Int32} {Q : Int32 → HS → Prop} {X23 : Nat → Nat → Nat → Int32 → Nat → Nat → HS → Prop} {v1 v2 v3 : Nat} {v4 : Int32} {kk nn : Nat} {S : HS} {c : Nat} (hL : scL ≤ 4096) (hc : 8 * c + 8 ≤ scL) (hb : ∀ x : Int32, x = v4 + (8 : Int32) → ∀ (kk nn : Nat) (T : HS), IV T → ob T v1 9 → ob T v2 11 → ob T v3 14 → hN T v3 = 1 → TT v1 v2 T → fI T v1 7 = fI T v2 13 → WH v1 v2 T → WRy v1 v2 T → kk ≤ 200 + 35 * (c + 1) → nn ≤ 13000 + 8200 * (c + 1) → X23 v1 v2 v3 x kk nn T) (h : LI v1 v2 v3 v4 kk nn S c) : P_L_law_2043 scL scx Q X23 v1 v2 v3 v4 kk nn S := by
  obtain ⟨hI, o1, o2, o3, l3, tp, fa, wh, wr, hv, hk, hn⟩ := h
  obtain ⟨AA, GG, wr, gb⟩ := wr
  unfold P_L_law_2043
  intro x938 ex938
  refine ⟨sc_in (j := 1) hv hc hL ex938 (by omega) (by decide), ?_⟩
  intro x939 ex939
  intro x940 ex940
  refine ⟨sc_in (j := 2) hv hc hL ex940 (by omega) (by decide), ?_⟩
  intro x941 ex941
  refine ⟨fun c942 => ?_, fun c942 => ?_⟩
  · unfold P_L_law_2064
    refine ⟨o1, ?_⟩
    refine ⟨by show _ ≤ 601024; omega, by show _ ≤ 7293034; omega, ?_⟩
    refine mz_X9_got hI o1 (fun x944 S943 hJ g945 fc946 Kg945 nf1 kz => ?_)
    have wr := wr_keep hI o2 wr kz.1 kz.2 fc946 (by decide) (by decide) (by decide)
    have tp := tt_fri tp o1 o2 Kg945 fc946 (by decide) (by decide) (by decide) (by decide)
    have fa := fa_fri fa o1 o2 fc946 (by decide) (by decide)
    have hI := hJ
    have l3 := (gr_len g945 o3).trans l3
    have o1 := gr_ob g945 o1
    have o2 := gr_ob g945 o2
    have o3 := gr_ob g945 o3
    intro _
    intro x947 ex947
    refine ⟨sc_in (j := 1) hv hc hL ex947 (by omega) (by decide), ?_⟩
    intro x948 ex948
    intro x949 ex949
    refine ⟨sc_in (j := 2) hv hc hL ex949 (by omega) (by decide), ?_⟩
    intro x950 ex950
    refine ⟨fun c951 => ?_, fun c951 => ?_⟩
    · unfold P_L_law_2089
      refine ⟨o2, ?_⟩
      refine ⟨by show _ ≤ 601024; omega, by show _ ≤ 7293034; omega, ?_⟩
      refine mz_X11_got hI o2 (fun x953 S952 hJ g954 fc955 Kg954 nf2 kz => ?_)
      have wr := wr_keep hI o2 wr kz.1 kz.2 fc955 (by decide) (by decide) (by decide)
      have tp := tt_fri tp o1 o2 Kg954 fc955 (by decide) (by decide) (by decide) (by decide)
      have fa := fa_fri fa o1 o2 fc955 (by decide) (by decide)
      have wh := wh_set nf1 fc955 (by decide) nf2
      have hI := hJ
      have l3 := (gr_len g954 o3).trans l3
      have o1 := gr_ob g954 o1
      have o2 := gr_ob g954 o2
      have o3 := gr_ob g954 o3
      intro _
      unfold P_L_law_2341
      intro x956 ex956
      have back := hb x956 ex956
      exact back _ _ _ hI o1 o2 o3 l3 tp fa wh ⟨AA, GG, wr, gb⟩ (by omega) (by omega)
    · unfold P_L_law_2089
      refine ⟨o2, ?_⟩
      refine ⟨by show _ ≤ 601024; omega, by show _ ≤ 7293034; omega, ?_⟩
      refine mz_X11_got hI o2 (fun x958 S957 hJ g959 fc960 Kg959 nf2 kz => ?_)
      have wr := wr_keep hI o2 wr kz.1 kz.2 fc960 (by decide) (by decide) (by decide)
      have tp := tt_fri tp o1 o2 Kg959 fc960 (by decide) (by decide) (by decide) (by decide)
      have fa := fa_fri fa o1 o2 fc960 (by decide) (by decide)
      have wh := wh_set nf1 fc960 (by decide) nf2
      have hI := hJ
      have l3 := (gr_len g959 o3).trans l3
      have o1 := gr_ob g959 o1
      have o2 := gr_ob g959 o2
      have o3 := gr_ob g959 o3
      intro _
      unfold P_L_law_2341
      intro x961 ex961
      have back := hb x961 ex961
      exact back _ _ _ hI o1 o2 o3 l3 tp fa wh ⟨AA, GG, wr, gb⟩ (by omega) (by omega)
  · unfold P_L_law_2064
    refine ⟨o1, ?_⟩
    refine ⟨by show _ ≤ 601024; omega, by show _ ≤ 7293034; omega, ?_⟩
    refine mz_X9_got hI o1 (fun x963 S962 hJ g964 fc965 Kg964 nf1 kz => ?_)
    have wr := wr_keep hI o2 wr kz.1 kz.2 fc965 (by decide) (by decide) (by decide)
    have tp := tt_fri tp o1 o2 Kg964 fc965 (by decide) (by decide) (by decide) (by decide)
    have fa := fa_fri fa o1 o2 fc965 (by decide) (by decide)
    have hI := hJ
    have l3 := (gr_len g964 o3).trans l3
    have o1 := gr_ob g964 o1
    have o2 := gr_ob g964 o2
    have o3 := gr_ob g964 o3
    intro _
    intro x966 ex966
    refine ⟨sc_in (j := 1) hv hc hL ex966 (by omega) (by decide), ?_⟩
    intro x967 ex967
    intro x968 ex968
    refine ⟨sc_in (j := 2) hv hc hL ex968 (by omega) (by decide), ?_⟩
    intro x969 ex969
    refine ⟨fun c970 => ?_, fun c970 => ?_⟩
    · unfold P_L_law_2089
      refine ⟨o2, ?_⟩
      refine ⟨by show _ ≤ 601024; omega, by show _ ≤ 7293034; omega, ?_⟩
      refine mz_X11_got hI o2 (fun x972 S971 hJ g973 fc974 Kg973 nf2 kz => ?_)
      have wr := wr_keep hI o2 wr kz.1 kz.2 fc974 (by decide) (by decide) (by decide)
      have tp := tt_fri tp o1 o2 Kg973 fc974 (by decide) (by decide) (by decide) (by decide)
      have fa := fa_fri fa o1 o2 fc974 (by decide) (by decide)
      have wh := wh_set nf1 fc974 (by decide) nf2
      have hI := hJ
      have l3 := (gr_len g973 o3).trans l3
      have o1 := gr_ob g973 o1
      have o2 := gr_ob g973 o2
      have o3 := gr_ob g973 o3
      intro _
      unfold P_L_law_2341
      intro x975 ex975
      have back := hb x975 ex975
      exact back _ _ _ hI o1 o2 o3 l3 tp fa wh ⟨AA, GG, wr, gb⟩ (by omega) (by omega)
    · unfold P_L_law_2089
      refine ⟨o2, ?_⟩
      refine ⟨by show _ ≤ 601024; omega, by show _ ≤ 7293034; omega, ?_⟩
      refine mz_X11_got hI o2 (fun x977 S976 hJ g978 fc979 Kg978 nf2 kz => ?_)
      have wr := wr_keep hI o2 wr kz.1 kz.2 fc979 (by decide) (by decide) (by decide)
      have tp := tt_fri tp o1 o2 Kg978 fc979 (by decide) (by decide) (by decide) (by decide)
      have fa := fa_fri fa o1 o2 fc979 (by decide) (by decide)
      have wh := wh_set nf1 fc979 (by decide) nf2
      have hI := hJ
      have l3 := (gr_len g978 o3).trans l3
      have o1 := gr_ob g978 o1
      have o2 := gr_ob g978 o2
      have o3 := gr_ob g978 o3
      intro _
      unfold P_L_law_2341
      intro x980 ex980
      have back := hb x980 ex980
      exact back _ _ _ hI o1 o2 o3 l3 tp fa wh ⟨AA, GG, wr, gb⟩ (by omega) (by omega)
set_option maxHeartbeats 4000000 in
set_option maxRecDepth 20000 in
theorem a_L_law_2096 {scL : Nat} {scx : Nat → Int32} {Q : Int32 → HS → Prop} {X23 : Nat → Nat → Nat → Int32 → Nat → Nat → HS → Prop} {v1 v2 v3 : Nat} {v4 : Int32} {kk nn : Nat} {S : HS} {c : Nat} (hL : scL ≤ 4096) (hc : 8 * c + 8 ≤ scL) (hb : ∀ x : Int32, x = v4 + (8 : Int32) → ∀ (kk nn : Nat) (T : HS), IV T → ob T v1 9 → ob T v2 11 → ob T v3 14 → hN T v3 = 1 → TT v1 v2 T → fI T v1 7 = fI T v2 13 → WH v1 v2 T → WRy v1 v2 T → kk ≤ 200 + 35 * (c + 1) → nn ≤ 13000 + 8200 * (c + 1) → X23 v1 v2 v3 x kk nn T) (h : LI v1 v2 v3 v4 kk nn S c) : P_L_law_2096 scL scx Q X23 v1 v2 v3 v4 kk nn S := by
  obtain ⟨hI, o1, o2, o3, l3, tp, fa, wh, wr, hv, hk, hn⟩ := h
  obtain ⟨AA, GG, wr, gb⟩ := wr
  unfold P_L_law_2096
  intro x981 ex981
  refine ⟨sc_in (j := 1) hv hc hL ex981 (by omega) (by decide), ?_⟩
  intro x982 ex982
  refine ⟨fun c983 => ?_, fun c983 => ?_⟩
  · unfold P_L_law_2111
    refine ⟨o1, ?_⟩
    refine ⟨by show _ ≤ 601024; omega, by show _ ≤ 7293034; omega, ?_⟩
    refine mz_X9_wetness hI o1 (fun x985 S984 hJ g986 fc987 Kg986 nf1 kz => ?_)
    have wr := wr_keep hI o2 wr kz.1 kz.2 fc987 (by decide) (by decide) (by decide)
    have tp := tt_fri tp o1 o2 Kg986 fc987 (by decide) (by decide) (by decide) (by decide)
    have fa := fa_fri fa o1 o2 fc987 (by decide) (by decide)
    have hI := hJ
    have l3 := (gr_len g986 o3).trans l3
    have o1 := gr_ob g986 o1
    have o2 := gr_ob g986 o2
    have o3 := gr_ob g986 o3
    intro _
    intro x988 ex988
    refine ⟨sc_in (j := 1) hv hc hL ex988 (by omega) (by decide), ?_⟩
    intro x989 ex989
    refine ⟨fun c990 => ?_, fun c990 => ?_⟩
    · unfold P_L_law_2130
      refine ⟨o2, ?_⟩
      refine ⟨by show _ ≤ 601024; omega, by show _ ≤ 7293034; omega, ?_⟩
      refine mz_X11_wetness hI o2 (fun x992 S991 hJ g993 fc994 Kg993 nf2 kz => ?_)
      have wr := wr_keep hI o2 wr kz.1 kz.2 fc994 (by decide) (by decide) (by decide)
      have tp := tt_fri tp o1 o2 Kg993 fc994 (by decide) (by decide) (by decide) (by decide)
      have fa := fa_fri fa o1 o2 fc994 (by decide) (by decide)
      have wh := wh_set nf1 fc994 (by decide) nf2
      have hI := hJ
      have l3 := (gr_len g993 o3).trans l3
      have o1 := gr_ob g993 o1
      have o2 := gr_ob g993 o2
      have o3 := gr_ob g993 o3
      intro _
      unfold P_L_law_2341
      intro x995 ex995
      have back := hb x995 ex995
      exact back _ _ _ hI o1 o2 o3 l3 tp fa wh ⟨AA, GG, wr, gb⟩ (by omega) (by omega)
    · unfold P_L_law_2130
      refine ⟨o2, ?_⟩
      refine ⟨by show _ ≤ 601024; omega, by show _ ≤ 7293034; omega, ?_⟩
      refine mz_X11_wetness hI o2 (fun x997 S996 hJ g998 fc999 Kg998 nf2 kz => ?_)
      have wr := wr_keep hI o2 wr kz.1 kz.2 fc999 (by decide) (by decide) (by decide)
      have tp := tt_fri tp o1 o2 Kg998 fc999 (by decide) (by decide) (by decide) (by decide)
      have fa := fa_fri fa o1 o2 fc999 (by decide) (by decide)
      have wh := wh_set nf1 fc999 (by decide) nf2
      have hI := hJ
      have l3 := (gr_len g998 o3).trans l3
      have o1 := gr_ob g998 o1
      have o2 := gr_ob g998 o2
      have o3 := gr_ob g998 o3
      intro _
      unfold P_L_law_2341
      intro x1000 ex1000
      have back := hb x1000 ex1000
      exact back _ _ _ hI o1 o2 o3 l3 tp fa wh ⟨AA, GG, wr, gb⟩ (by omega) (by omega)
  · unfold P_L_law_2111
    refine ⟨o1, ?_⟩
    refine ⟨by show _ ≤ 601024; omega, by show _ ≤ 7293034; omega, ?_⟩
    refine mz_X9_wetness hI o1 (fun x1002 S1001 hJ g1003 fc1004 Kg1003 nf1 kz => ?_)
    have wr := wr_keep hI o2 wr kz.1 kz.2 fc1004 (by decide) (by decide) (by decide)
    have tp := tt_fri tp o1 o2 Kg1003 fc1004 (by decide) (by decide) (by decide) (by decide)
    have fa := fa_fri fa o1 o2 fc1004 (by decide) (by decide)
    have hI := hJ
    have l3 := (gr_len g1003 o3).trans l3
    have o1 := gr_ob g1003 o1
    have o2 := gr_ob g1003 o2
    have o3 := gr_ob g1003 o3
    intro _
    intro x1005 ex1005
    refine ⟨sc_in (j := 1) hv hc hL ex1005 (by omega) (by decide), ?_⟩
    intro x1006 ex1006
    refine ⟨fun c1007 => ?_, fun c1007 => ?_⟩
    · unfold P_L_law_2130
      refine ⟨o2, ?_⟩
      refine ⟨by show _ ≤ 601024; omega, by show _ ≤ 7293034; omega, ?_⟩
      refine mz_X11_wetness hI o2 (fun x1009 S1008 hJ g1010 fc1011 Kg1010 nf2 kz => ?_)
      have wr := wr_keep hI o2 wr kz.1 kz.2 fc1011 (by decide) (by decide) (by decide)
      have tp := tt_fri tp o1 o2 Kg1010 fc1011 (by decide) (by decide) (by decide) (by decide)
      have fa := fa_fri fa o1 o2 fc1011 (by decide) (by decide)
      have wh := wh_set nf1 fc1011 (by decide) nf2
      have hI := hJ
      have l3 := (gr_len g1010 o3).trans l3
      have o1 := gr_ob g1010 o1
      have o2 := gr_ob g1010 o2
      have o3 := gr_ob g1010 o3
      intro _
      unfold P_L_law_2341
      intro x1012 ex1012
      have back := hb x1012 ex1012
      exact back _ _ _ hI o1 o2 o3 l3 tp fa wh ⟨AA, GG, wr, gb⟩ (by omega) (by omega)
    · unfold P_L_law_2130
      refine ⟨o2, ?_⟩
      refine ⟨by show _ ≤ 601024; omega, by show _ ≤ 7293034; omega, ?_⟩
      refine mz_X11_wetness hI o2 (fun x1014 S1013 hJ g1015 fc1016 Kg1015 nf2 kz => ?_)
      have wr := wr_keep hI o2 wr kz.1 kz.2 fc1016 (by decide) (by decide) (by decide)
      have tp := tt_fri tp o1 o2 Kg1015 fc1016 (by decide) (by decide) (by decide) (by decide)
      have fa := fa_fri fa o1 o2 fc1016 (by decide) (by decide)
      have wh := wh_set nf1 fc1016 (by decide) nf2
      have hI := hJ
      have l3 := (gr_len g1015 o3).trans l3
      have o1 := gr_ob g1015 o1
      have o2 := gr_ob g1015 o2
      have o3 := gr_ob g1015 o3
      intro _
      unfold P_L_law_2341
      intro x1017 ex1017
      have back := hb x1017 ex1017
      exact back _ _ _ hI o1 o2 o3 l3 tp fa wh ⟨AA, GG, wr, gb⟩ (by omega) (by omega)
set_option maxHeartbeats 4000000 in
set_option maxRecDepth 20000 in
theorem a_L_law_2137 {scL : Nat} {scx : Nat → Int32} {Q : Int32 → HS → Prop} {X23 : Nat → Nat → Nat → Int32 → Nat → Nat → HS → Prop} {v1 v2 v3 : Nat} {v4 : Int32} {kk nn : Nat} {S : HS} {c : Nat} (hL : scL ≤ 4096) (hc : 8 * c + 8 ≤ scL) (hb : ∀ x : Int32, x = v4 + (8 : Int32) → ∀ (kk nn : Nat) (T : HS), IV T → ob T v1 9 → ob T v2 11 → ob T v3 14 → hN T v3 = 1 → TT v1 v2 T → fI T v1 7 = fI T v2 13 → WH v1 v2 T → WRy v1 v2 T → kk ≤ 200 + 35 * (c + 1) → nn ≤ 13000 + 8200 * (c + 1) → X23 v1 v2 v3 x kk nn T) (h : LI v1 v2 v3 v4 kk nn S c) : P_L_law_2137 scL scx Q X23 v1 v2 v3 v4 kk nn S := by
  obtain ⟨hI, o1, o2, o3, l3, tp, fa, wh, wr, hv, hk, hn⟩ := h
  obtain ⟨AA, GG, wr, gb⟩ := wr
  unfold P_L_law_2137
  refine ⟨o1, ?_⟩
  refine ⟨by show _ ≤ 601024; omega, by show _ ≤ 7293034; omega, ?_⟩
  refine mz_X9_soaked hI o1 (fun x1019 S1018 hJ g1020 fc1021 Kg1020 nf1 kz => ?_)
  have wr := wr_keep hI o2 wr kz.1 kz.2 fc1021 (by decide) (by decide) (by decide)
  have tp := tt_fri tp o1 o2 Kg1020 fc1021 (by decide) (by decide) (by decide) (by decide)
  have fa := fa_fri fa o1 o2 fc1021 (by decide) (by decide)
  have hI := hJ
  have l3 := (gr_len g1020 o3).trans l3
  have o1 := gr_ob g1020 o1
  have o2 := gr_ob g1020 o2
  have o3 := gr_ob g1020 o3
  intro _
  refine ⟨o2, ?_⟩
  refine ⟨by show _ ≤ 601024; omega, by show _ ≤ 7293034; omega, ?_⟩
  refine mz_X11_soaked hI o2 (fun x1023 S1022 hJ g1024 fc1025 Kg1024 nf2 kz => ?_)
  have wr := wr_keep hI o2 wr kz.1 kz.2 fc1025 (by decide) (by decide) (by decide)
  have tp := tt_fri tp o1 o2 Kg1024 fc1025 (by decide) (by decide) (by decide) (by decide)
  have fa := fa_fri fa o1 o2 fc1025 (by decide) (by decide)
  have wh := wh_set nf1 fc1025 (by decide) nf2
  have hI := hJ
  have l3 := (gr_len g1024 o3).trans l3
  have o1 := gr_ob g1024 o1
  have o2 := gr_ob g1024 o2
  have o3 := gr_ob g1024 o3
  intro _
  unfold P_L_law_2341
  intro x1026 ex1026
  have back := hb x1026 ex1026
  exact back _ _ _ hI o1 o2 o3 l3 tp fa wh ⟨AA, GG, wr, gb⟩ (by omega) (by omega)
set_option maxHeartbeats 4000000 in
set_option maxRecDepth 20000 in
theorem a_L_law_2150 {scL : Nat} {scx : Nat → Int32} {Q : Int32 → HS → Prop} {X23 : Nat → Nat → Nat → Int32 → Nat → Nat → HS → Prop} {v1 v2 v3 : Nat} {v4 : Int32} {kk nn : Nat} {S : HS} {c : Nat} (hL : scL ≤ 4096) (hc : 8 * c + 8 ≤ scL) (hb : ∀ x : Int32, x = v4 + (8 : Int32) → ∀ (kk nn : Nat) (T : HS), IV T → ob T v1 9 → ob T v2 11 → ob T v3 14 → hN T v3 = 1 → TT v1 v2 T → fI T v1 7 = fI T v2 13 → WH v1 v2 T → WRy v1 v2 T → kk ≤ 200 + 35 * (c + 1) → nn ≤ 13000 + 8200 * (c + 1) → X23 v1 v2 v3 x kk nn T) (h : LI v1 v2 v3 v4 kk nn S c) : P_L_law_2150 scL scx Q X23 v1 v2 v3 v4 kk nn S := by
  obtain ⟨hI, o1, o2, o3, l3, tp, fa, wh, wr, hv, hk, hn⟩ := h
  obtain ⟨AA, GG, wr, gb⟩ := wr
  unfold P_L_law_2150
  refine ⟨o1, ?_⟩
  refine ⟨by show _ ≤ 601024; omega, by show _ ≤ 7293034; omega, ?_⟩
  refine mz_X9_undo hI o1 (fun x1028 S1027 hJ g1029 fc1030 _ Kg1029 nf1 kz => ?_)
  have wr := wr_keep hI o2 wr kz.1 kz.2 fc1030 (by decide) (by decide) (by decide)
  have tp := tt_fri tp o1 o2 Kg1029 fc1030 (by decide) (by decide) (by decide) (by decide)
  have fa := fa_fri fa o1 o2 fc1030 (by decide) (by decide)
  have hI := hJ
  have l3 := (gr_len g1029 o3).trans l3
  have o1 := gr_ob g1029 o1
  have o2 := gr_ob g1029 o2
  have o3 := gr_ob g1029 o3
  intro _ _
  refine ⟨o2, ?_⟩
  refine ⟨by show _ ≤ 601024; omega, by show _ ≤ 7293034; omega, ?_⟩
  refine mz_X11_undo hI o2 (fun x1032 S1031 hJ g1033 fc1034 _ Kg1033 nf2 kz => ?_)
  have wr := wr_keep hI o2 wr kz.1 kz.2 fc1034 (by decide) (by decide) (by decide)
  have tp := tt_fri tp o1 o2 Kg1033 fc1034 (by decide) (by decide) (by decide) (by decide)
  have fa := fa_fri fa o1 o2 fc1034 (by decide) (by decide)
  have wh := wh_set nf1 fc1034 (by decide) nf2
  have hI := hJ
  have l3 := (gr_len g1033 o3).trans l3
  have o1 := gr_ob g1033 o1
  have o2 := gr_ob g1033 o2
  have o3 := gr_ob g1033 o3
  intro _ _
  unfold P_L_law_2341
  intro x1035 ex1035
  have back := hb x1035 ex1035
  exact back _ _ _ hI o1 o2 o3 l3 tp fa wh ⟨AA, GG, wr, gb⟩ (by omega) (by omega)
set_option maxHeartbeats 4000000 in
set_option maxRecDepth 20000 in
theorem a_L_law_2163 {scL : Nat} {scx : Nat → Int32} {Q : Int32 → HS → Prop} {X23 : Nat → Nat → Nat → Int32 → Nat → Nat → HS → Prop} {v1 v2 v3 : Nat} {v4 : Int32} {kk nn : Nat} {S : HS} {c : Nat} (hL : scL ≤ 4096) (hc : 8 * c + 8 ≤ scL) (hb : ∀ x : Int32, x = v4 + (8 : Int32) → ∀ (kk nn : Nat) (T : HS), IV T → ob T v1 9 → ob T v2 11 → ob T v3 14 → hN T v3 = 1 → TT v1 v2 T → fI T v1 7 = fI T v2 13 → WH v1 v2 T → WRy v1 v2 T → kk ≤ 200 + 35 * (c + 1) → nn ≤ 13000 + 8200 * (c + 1) → X23 v1 v2 v3 x kk nn T) (h : LI v1 v2 v3 v4 kk nn S c) : P_L_law_2163 scL scx Q X23 v1 v2 v3 v4 kk nn S := by
  obtain ⟨hI, o1, o2, o3, l3, tp, fa, wh, wr, hv, hk, hn⟩ := h
  obtain ⟨AA, GG, wr, gb⟩ := wr
  unfold P_L_law_2163
  refine ⟨o1, ?_⟩
  refine ⟨by show _ ≤ 601024; omega, by show _ ≤ 7293034; omega, ?_⟩
  refine mz_X9_mark hI o1 (fun x1037 S1036 hJ g1038 fc1039 Kg1038 nf1 kz => ?_)
  have wr := wr_keep hI o2 wr kz.1 kz.2 fc1039 (by decide) (by decide) (by decide)
  have tp := tt_fri tp o1 o2 Kg1038 fc1039 (by decide) (by decide) (by decide) (by decide)
  have fa := fa_fri fa o1 o2 fc1039 (by decide) (by decide)
  have hI := hJ
  have l3 := (gr_len g1038 o3).trans l3
  have o1 := gr_ob g1038 o1
  have o2 := gr_ob g1038 o2
  have o3 := gr_ob g1038 o3
  intro _
  refine ⟨o2, ?_⟩
  refine ⟨by show _ ≤ 601024; omega, by show _ ≤ 7293034; omega, ?_⟩
  refine mz_X11_mark hI o2 (fun x1041 S1040 hJ g1042 fc1043 Kg1042 nf2 kz => ?_)
  have wr := wr_keep hI o2 wr kz.1 kz.2 fc1043 (by decide) (by decide) (by decide)
  have tp := tt_fri tp o1 o2 Kg1042 fc1043 (by decide) (by decide) (by decide) (by decide)
  have fa := fa_fri fa o1 o2 fc1043 (by decide) (by decide)
  have wh := wh_set nf1 fc1043 (by decide) nf2
  have hI := hJ
  have l3 := (gr_len g1042 o3).trans l3
  have o1 := gr_ob g1042 o1
  have o2 := gr_ob g1042 o2
  have o3 := gr_ob g1042 o3
  intro _
  unfold P_L_law_2341
  intro x1044 ex1044
  have back := hb x1044 ex1044
  exact back _ _ _ hI o1 o2 o3 l3 tp fa wh ⟨AA, GG, wr, gb⟩ (by omega) (by omega)
set_option maxHeartbeats 4000000 in
set_option maxRecDepth 20000 in
theorem a_L_law_2176 {scL : Nat} {scx : Nat → Int32} {Q : Int32 → HS → Prop} {X23 : Nat → Nat → Nat → Int32 → Nat → Nat → HS → Prop} {v1 v2 v3 : Nat} {v4 : Int32} {kk nn : Nat} {S : HS} {c : Nat} (hL : scL ≤ 4096) (hc : 8 * c + 8 ≤ scL) (hb : ∀ x : Int32, x = v4 + (8 : Int32) → ∀ (kk nn : Nat) (T : HS), IV T → ob T v1 9 → ob T v2 11 → ob T v3 14 → hN T v3 = 1 → TT v1 v2 T → fI T v1 7 = fI T v2 13 → WH v1 v2 T → WRy v1 v2 T → kk ≤ 200 + 35 * (c + 1) → nn ≤ 13000 + 8200 * (c + 1) → X23 v1 v2 v3 x kk nn T) (h : LI v1 v2 v3 v4 kk nn S c) : P_L_law_2176 scL scx Q X23 v1 v2 v3 v4 kk nn S := by
  obtain ⟨hI, o1, o2, o3, l3, tp, fa, wh, wr, hv, hk, hn⟩ := h
  obtain ⟨AA, GG, wr, gb⟩ := wr
  unfold P_L_law_2176
  intro x1045 ex1045
  refine ⟨sc_in (j := 1) hv hc hL ex1045 (by omega) (by decide), ?_⟩
  intro x1046 ex1046
  refine ⟨o1, ?_⟩
  refine ⟨by show _ ≤ 601024; omega, by show _ ≤ 7293034; omega, ?_⟩
  refine mz_X9_back hI o1 (fun x1048 S1047 hJ g1049 fc1050 _ Kg1049 nf1 kz => ?_)
  have wr := wr_keep hI o2 wr kz.1 kz.2 fc1050 (by decide) (by decide) (by decide)
  have tp := tt_fri tp o1 o2 Kg1049 fc1050 (by decide) (by decide) (by decide) (by decide)
  have fa := fa_fri fa o1 o2 fc1050 (by decide) (by decide)
  have hI := hJ
  have l3 := (gr_len g1049 o3).trans l3
  have o1 := gr_ob g1049 o1
  have o2 := gr_ob g1049 o2
  have o3 := gr_ob g1049 o3
  intro _ _
  intro x1051 ex1051
  refine ⟨sc_in (j := 1) hv hc hL ex1051 (by omega) (by decide), ?_⟩
  intro x1052 ex1052
  refine ⟨o2, ?_⟩
  refine ⟨by show _ ≤ 601024; omega, by show _ ≤ 7293034; omega, ?_⟩
  refine mz_X11_back hI o2 (fun x1054 S1053 hJ g1055 fc1056 _ Kg1055 nf2 kz => ?_)
  have wr := wr_keep hI o2 wr kz.1 kz.2 fc1056 (by decide) (by decide) (by decide)
  have tp := tt_fri tp o1 o2 Kg1055 fc1056 (by decide) (by decide) (by decide) (by decide)
  have fa := fa_fri fa o1 o2 fc1056 (by decide) (by decide)
  have wh := wh_set nf1 fc1056 (by decide) nf2
  have hI := hJ
  have l3 := (gr_len g1055 o3).trans l3
  have o1 := gr_ob g1055 o1
  have o2 := gr_ob g1055 o2
  have o3 := gr_ob g1055 o3
  intro _ _
  unfold P_L_law_2341
  intro x1057 ex1057
  have back := hb x1057 ex1057
  exact back _ _ _ hI o1 o2 o3 l3 tp fa wh ⟨AA, GG, wr, gb⟩ (by omega) (by omega)
set_option maxHeartbeats 4000000 in
set_option maxRecDepth 20000 in
theorem a_L_law_2201 {scL : Nat} {scx : Nat → Int32} {Q : Int32 → HS → Prop} {X23 : Nat → Nat → Nat → Int32 → Nat → Nat → HS → Prop} {v1 v2 v3 : Nat} {v4 : Int32} {kk nn : Nat} {S : HS} {c : Nat} (hL : scL ≤ 4096) (hc : 8 * c + 8 ≤ scL) (hb : ∀ x : Int32, x = v4 + (8 : Int32) → ∀ (kk nn : Nat) (T : HS), IV T → ob T v1 9 → ob T v2 11 → ob T v3 14 → hN T v3 = 1 → TT v1 v2 T → fI T v1 7 = fI T v2 13 → WH v1 v2 T → WRy v1 v2 T → kk ≤ 200 + 35 * (c + 1) → nn ≤ 13000 + 8200 * (c + 1) → X23 v1 v2 v3 x kk nn T) (h : LI v1 v2 v3 v4 kk nn S c) : P_L_law_2201 scL scx Q X23 v1 v2 v3 v4 kk nn S := by
  obtain ⟨hI, o1, o2, o3, l3, tp, fa, wh, wr, hv, hk, hn⟩ := h
  obtain ⟨AA, GG, wr, gb⟩ := wr
  unfold P_L_law_2201
  intro x1058 ex1058
  refine ⟨sc_in (j := 1) hv hc hL ex1058 (by omega) (by decide), ?_⟩
  intro x1059 ex1059
  intro x1060 ex1060
  refine ⟨sc_in (j := 2) hv hc hL ex1060 (by omega) (by decide), ?_⟩
  intro x1061 ex1061
  refine ⟨o1, ?_⟩
  refine ⟨by show _ ≤ 601024; omega, by show _ ≤ 7293034; omega, ?_⟩
  have wr0 := wr
  obtain ⟨r9, w9, u9, J9, h91, h92, h93, h94⟩ := wr0
  refine mt_X9_walker hI o1 J9 h91 h92 h93 gb (fun x1063 S1062 hJ g1064 fc1065 Kg1064 nf1 tz1 => ?_)
  have kz := tz1.1
  have wr := wr_keep hI o2 wr kz.1 kz.2 fc1065 (by decide) (by decide) (by decide)
  have tp := tt_fri tp o1 o2 Kg1064 fc1065 (by decide) (by decide) (by decide) (by decide)
  have fa := fa_fri fa o1 o2 fc1065 (by decide) (by decide)
  have hI := hJ
  have l3 := (gr_len g1064 o3).trans l3
  have o1 := gr_ob g1064 o1
  have o2 := gr_ob g1064 o2
  have o3 := gr_ob g1064 o3
  intro _
  intro x1066 ex1066
  refine ⟨sc_in (j := 1) hv hc hL ex1066 (by omega) (by decide), ?_⟩
  intro x1067 ex1067
  intro x1068 ex1068
  refine ⟨sc_in (j := 2) hv hc hL ex1068 (by omega) (by decide), ?_⟩
  intro x1069 ex1069
  refine ⟨o2, ?_⟩
  refine ⟨by show _ ≤ 601024; omega, by show _ ≤ 7293034; omega, ?_⟩
  have wr0 := wr
  obtain ⟨-, -, -, -, -, -, ab9, hm9⟩ := wr0
  refine mt_X11_walker hI o2 hm9 ab9 gb (fun x1071 S1070 hJ g1072 fc1073 Kg1072 nf2 tz2 => ?_)
  have kz := tz2.1
  have fe := tz1.2.trans (Eq.symm (by subst_vars; exact tz2.2))
  have wr := wr_keep hI o2 wr kz.1 kz.2 fc1073 (by decide) (by decide) (by decide)
  have tp := tt_fri tp o1 o2 Kg1072 fc1073 (by decide) (by decide) (by decide) (by decide)
  have fa := fa_fri fa o1 o2 fc1073 (by decide) (by decide)
  have wh := wh_set nf1 fc1073 (by decide) nf2
  have hI := hJ
  have l3 := (gr_len g1072 o3).trans l3
  have o1 := gr_ob g1072 o1
  have o2 := gr_ob g1072 o2
  have o3 := gr_ob g1072 o3
  intro _
  unfold P_L_law_2341
  intro x1074 ex1074
  have back := hb x1074 ex1074
  exact back _ _ _ hI o1 o2 o3 l3 tp fa wh ⟨AA, GG, wr, gb⟩ (by omega) (by omega)
set_option maxHeartbeats 4000000 in
set_option maxRecDepth 20000 in
theorem a_L_law_2238 {scL : Nat} {scx : Nat → Int32} {Q : Int32 → HS → Prop} {X23 : Nat → Nat → Nat → Int32 → Nat → Nat → HS → Prop} {v1 v2 v3 : Nat} {v4 : Int32} {kk nn : Nat} {S : HS} {c : Nat} (hL : scL ≤ 4096) (hc : 8 * c + 8 ≤ scL) (hb : ∀ x : Int32, x = v4 + (8 : Int32) → ∀ (kk nn : Nat) (T : HS), IV T → ob T v1 9 → ob T v2 11 → ob T v3 14 → hN T v3 = 1 → TT v1 v2 T → fI T v1 7 = fI T v2 13 → WH v1 v2 T → WRy v1 v2 T → kk ≤ 200 + 35 * (c + 1) → nn ≤ 13000 + 8200 * (c + 1) → X23 v1 v2 v3 x kk nn T) (h : LI v1 v2 v3 v4 kk nn S c) : P_L_law_2238 scL scx Q X23 v1 v2 v3 v4 kk nn S := by
  obtain ⟨hI, o1, o2, o3, l3, tp, fa, wh, wr, hv, hk, hn⟩ := h
  obtain ⟨AA, GG, wr, gb⟩ := wr
  unfold P_L_law_2238
  intro x1075 ex1075
  refine ⟨sc_in (j := 1) hv hc hL ex1075 (by omega) (by decide), ?_⟩
  intro x1076 ex1076
  intro x1077 ex1077
  refine ⟨sc_in (j := 2) hv hc hL ex1077 (by omega) (by decide), ?_⟩
  intro x1078 ex1078
  refine ⟨o1, ?_⟩
  refine ⟨by show _ ≤ 601024; omega, by show _ ≤ 7293034; omega, ?_⟩
  have wr0 := wr
  obtain ⟨r9, w9, u9, J9, h91, h92, h93, h94⟩ := wr0
  refine mt_X9_road hI o1 J9 h91 h92 h93 gb (fun x1080 S1079 hJ g1081 fc1082 Kg1081 nf1 tz1 => ?_)
  have kz := tz1.1
  have wr := wr_keep hI o2 wr kz.1 kz.2 fc1082 (by decide) (by decide) (by decide)
  have tp := tt_fri tp o1 o2 Kg1081 fc1082 (by decide) (by decide) (by decide) (by decide)
  have fa := fa_fri fa o1 o2 fc1082 (by decide) (by decide)
  have hI := hJ
  have l3 := (gr_len g1081 o3).trans l3
  have o1 := gr_ob g1081 o1
  have o2 := gr_ob g1081 o2
  have o3 := gr_ob g1081 o3
  intro _
  intro x1083 ex1083
  refine ⟨sc_in (j := 1) hv hc hL ex1083 (by omega) (by decide), ?_⟩
  intro x1084 ex1084
  intro x1085 ex1085
  refine ⟨sc_in (j := 2) hv hc hL ex1085 (by omega) (by decide), ?_⟩
  intro x1086 ex1086
  refine ⟨o2, ?_⟩
  refine ⟨by show _ ≤ 601024; omega, by show _ ≤ 7293034; omega, ?_⟩
  have wr0 := wr
  obtain ⟨-, -, -, -, -, -, ab9, hm9⟩ := wr0
  refine mt_X11_road hI o2 hm9 ab9 gb (fun x1088 S1087 hJ g1089 fc1090 Kg1089 nf2 tz2 => ?_)
  have kz := tz2.1
  have fe := tz1.2.trans (Eq.symm (by subst_vars; exact tz2.2))
  have wr := wr_keep hI o2 wr kz.1 kz.2 fc1090 (by decide) (by decide) (by decide)
  have tp := tt_fri tp o1 o2 Kg1089 fc1090 (by decide) (by decide) (by decide) (by decide)
  have fa := fa_fri fa o1 o2 fc1090 (by decide) (by decide)
  have wh := wh_set nf1 fc1090 (by decide) nf2
  have hI := hJ
  have l3 := (gr_len g1089 o3).trans l3
  have o1 := gr_ob g1089 o1
  have o2 := gr_ob g1089 o2
  have o3 := gr_ob g1089 o3
  intro _
  refine ⟨fun c1091 => ?_, fun c1091 => absurd fe c1091⟩
  unfold P_L_law_2341
  intro x1092 ex1092
  have back := hb x1092 ex1092
  exact back _ _ _ hI o1 o2 o3 l3 tp fa wh ⟨AA, GG, wr, gb⟩ (by omega) (by omega)
set_option maxHeartbeats 4000000 in
set_option maxRecDepth 20000 in
theorem a_L_law_2275 {scL : Nat} {scx : Nat → Int32} {Q : Int32 → HS → Prop} {X23 : Nat → Nat → Nat → Int32 → Nat → Nat → HS → Prop} {v1 v2 v3 : Nat} {v4 : Int32} {kk nn : Nat} {S : HS} {c : Nat} (hL : scL ≤ 4096) (hc : 8 * c + 8 ≤ scL) (hb : ∀ x : Int32, x = v4 + (8 : Int32) → ∀ (kk nn : Nat) (T : HS), IV T → ob T v1 9 → ob T v2 11 → ob T v3 14 → hN T v3 = 1 → TT v1 v2 T → fI T v1 7 = fI T v2 13 → WH v1 v2 T → WRy v1 v2 T → kk ≤ 200 + 35 * (c + 1) → nn ≤ 13000 + 8200 * (c + 1) → X23 v1 v2 v3 x kk nn T) (h : LI v1 v2 v3 v4 kk nn S c) : P_L_law_2275 scL scx Q X23 v1 v2 v3 v4 kk nn S := by
  obtain ⟨hI, o1, o2, o3, l3, tp, fa, wh, wr, hv, hk, hn⟩ := h
  obtain ⟨AA, GG, wr, gb⟩ := wr
  unfold P_L_law_2275
  intro x1093 ex1093
  refine ⟨sc_in (j := 1) hv hc hL ex1093 (by omega) (by decide), ?_⟩
  intro x1094 ex1094
  refine ⟨by show _ ≤ 601024; omega, by show _ ≤ 7293034; omega, hI, o1, o3, l3, fun x1096 S1095 hJ g1097 fc1098 KL KL7 KL8 _ => ?_⟩
  have wr := wr_keep hI o2 wr KL7 KL8 fc1098 (by decide) (by decide) (by decide)
  have tp := tt_fri tp o1 o2 KL fc1098 (by decide) (by decide) (by decide) (by decide)
  have fa := fa_fri fa o1 o2 fc1098 (by decide) (by decide)
  have wh := wh_fri wh o1 o2 fc1098 (by decide) (by decide) (by decide)
  have hI := hJ
  have l3 := (gr_len g1097 o3).trans l3
  have o1 := gr_ob g1097 o1
  have o2 := gr_ob g1097 o2
  have o3 := gr_ob g1097 o3
  intro x1099 ex1099
  refine ⟨sc_in (j := 1) hv hc hL ex1099 (by omega) (by decide), ?_⟩
  intro x1100 ex1100
  refine ⟨o2, ?_⟩
  refine ⟨by show _ ≤ 601024; omega, by show _ ≤ 7293034; omega, ?_⟩
  refine mz_X11_led hI o2 (fun x1102 S1101 hJ g1103 fc1104 Kg1103 kz => ?_)
  have wr := wr_keep hI o2 wr kz.1 kz.2 fc1104 (by decide) (by decide) (by decide)
  have tp := tt_fri tp o1 o2 Kg1103 fc1104 (by decide) (by decide) (by decide) (by decide)
  have fa := fa_fri fa o1 o2 fc1104 (by decide) (by decide)
  have wh := wh_fri wh o1 o2 fc1104 (by decide) (by decide) (by decide)
  have hI := hJ
  have l3 := (gr_len g1103 o3).trans l3
  have o1 := gr_ob g1103 o1
  have o2 := gr_ob g1103 o2
  have o3 := gr_ob g1103 o3
  intro _
  unfold P_L_law_2341
  intro x1105 ex1105
  have back := hb x1105 ex1105
  exact back _ _ _ hI o1 o2 o3 l3 tp fa wh ⟨AA, GG, wr, gb⟩ (by omega) (by omega)
set_option maxHeartbeats 4000000 in
set_option maxRecDepth 20000 in
theorem a_L_law_2303 {scL : Nat} {scx : Nat → Int32} {Q : Int32 → HS → Prop} {X23 : Nat → Nat → Nat → Int32 → Nat → Nat → HS → Prop} {v1 v2 v3 : Nat} {v4 : Int32} {kk nn : Nat} {S : HS} {c : Nat} (hL : scL ≤ 4096) (hc : 8 * c + 8 ≤ scL) (hb : ∀ x : Int32, x = v4 + (8 : Int32) → ∀ (kk nn : Nat) (T : HS), IV T → ob T v1 9 → ob T v2 11 → ob T v3 14 → hN T v3 = 1 → TT v1 v2 T → fI T v1 7 = fI T v2 13 → WH v1 v2 T → WRy v1 v2 T → kk ≤ 200 + 35 * (c + 1) → nn ≤ 13000 + 8200 * (c + 1) → X23 v1 v2 v3 x kk nn T) (h : LI v1 v2 v3 v4 kk nn S c) : P_L_law_2303 scL scx Q X23 v1 v2 v3 v4 kk nn S := by
  obtain ⟨hI, o1, o2, o3, l3, tp, fa, wh, wr, hv, hk, hn⟩ := h
  obtain ⟨AA, GG, wr, gb⟩ := wr
  unfold P_L_law_2303
  intro x1106 ex1106
  refine ⟨sc_in (j := 1) hv hc hL ex1106 (by omega) (by decide), ?_⟩
  intro x1107 ex1107
  refine ⟨o1, ?_⟩
  refine ⟨by show _ ≤ 601024; omega, by show _ ≤ 7293034; omega, ?_⟩
  refine m_X9_size hI o1 (fun x1109 S1108 hJ g1110 pp => ?_)
  subst pp
  intro _
  intro x1112 ex1112
  refine ⟨sc_in (j := 1) hv hc hL ex1112 (by omega) (by decide), ?_⟩
  intro x1113 ex1113
  refine ⟨o2, ?_⟩
  refine ⟨by show _ ≤ 601024; omega, by show _ ≤ 7293034; omega, ?_⟩
  refine mz_X11_size hI o2 (fun x1115 S1114 hJ g1116 fc1117 Kg1116 kz => ?_)
  have wr := wr_keep hI o2 wr kz.1 kz.2 fc1117 (by decide) (by decide) (by decide)
  have tp := tt_fri tp o1 o2 Kg1116 fc1117 (by decide) (by decide) (by decide) (by decide)
  have fa := fa_fri fa o1 o2 fc1117 (by decide) (by decide)
  have wh := wh_fri wh o1 o2 fc1117 (by decide) (by decide) (by decide)
  have hI := hJ
  have l3 := (gr_len g1116 o3).trans l3
  have o1 := gr_ob g1116 o1
  have o2 := gr_ob g1116 o2
  have o3 := gr_ob g1116 o3
  intro _
  unfold P_L_law_2341
  intro x1118 ex1118
  have back := hb x1118 ex1118
  exact back _ _ _ hI o1 o2 o3 l3 tp fa wh ⟨AA, GG, wr, gb⟩ (by omega) (by omega)
set_option maxHeartbeats 4000000 in
set_option maxRecDepth 20000 in
theorem a_L_law_2328 {scL : Nat} {scx : Nat → Int32} {Q : Int32 → HS → Prop} {X23 : Nat → Nat → Nat → Int32 → Nat → Nat → HS → Prop} {v1 v2 v3 : Nat} {v4 : Int32} {kk nn : Nat} {S : HS} {c : Nat} (hL : scL ≤ 4096) (hc : 8 * c + 8 ≤ scL) (hb : ∀ x : Int32, x = v4 + (8 : Int32) → ∀ (kk nn : Nat) (T : HS), IV T → ob T v1 9 → ob T v2 11 → ob T v3 14 → hN T v3 = 1 → TT v1 v2 T → fI T v1 7 = fI T v2 13 → WH v1 v2 T → WRy v1 v2 T → kk ≤ 200 + 35 * (c + 1) → nn ≤ 13000 + 8200 * (c + 1) → X23 v1 v2 v3 x kk nn T) (h : LI v1 v2 v3 v4 kk nn S c) : P_L_law_2328 scL scx Q X23 v1 v2 v3 v4 kk nn S := by
  obtain ⟨hI, o1, o2, o3, l3, tp, fa, wh, wr, hv, hk, hn⟩ := h
  obtain ⟨AA, GG, wr, gb⟩ := wr
  unfold P_L_law_2328
  refine ⟨o1, ?_⟩
  refine ⟨by show _ ≤ 601024; omega, by show _ ≤ 7293034; omega, ?_⟩
  refine m_X9_trouble hI o1 (fun x1120 S1119 hJ g1121 pp => ?_)
  subst pp
  intro _
  refine ⟨o2, ?_⟩
  refine ⟨by show _ ≤ 601024; omega, by show _ ≤ 7293034; omega, ?_⟩
  refine mz_X11_trouble hI o2 (fun x1124 S1123 hJ g1125 fc1126 Kg1125 kz => ?_)
  have wr := wr_keep hI o2 wr kz.1 kz.2 fc1126 (by decide) (by decide) (by decide)
  have tp := tt_fri tp o1 o2 Kg1125 fc1126 (by decide) (by decide) (by decide) (by decide)
  have fa := fa_fri fa o1 o2 fc1126 (by decide) (by decide)
  have wh := wh_fri wh o1 o2 fc1126 (by decide) (by decide) (by decide)
  have hI := hJ
  have l3 := (gr_len g1125 o3).trans l3
  have o1 := gr_ob g1125 o1
  have o2 := gr_ob g1125 o2
  have o3 := gr_ob g1125 o3
  intro _
  unfold P_L_law_2341
  intro x1127 ex1127
  have back := hb x1127 ex1127
  exact back _ _ _ hI o1 o2 o3 l3 tp fa wh ⟨AA, GG, wr, gb⟩ (by omega) (by omega)
set_option maxHeartbeats 4000000 in
set_option maxRecDepth 20000 in
theorem a_L_law_2341 {scL : Nat} {scx : Nat → Int32} {Q : Int32 → HS → Prop} {X23 : Nat → Nat → Nat → Int32 → Nat → Nat → HS → Prop} {v1 v2 v3 : Nat} {v4 : Int32} {kk nn : Nat} {S : HS} {c : Nat} (hL : scL ≤ 4096) (hc : 8 * c + 8 ≤ scL) (hb : ∀ x : Int32, x = v4 + (8 : Int32) → ∀ (kk nn : Nat) (T : HS), IV T → ob T v1 9 → ob T v2 11 → ob T v3 14 → hN T v3 = 1 → TT v1 v2 T → fI T v1 7 = fI T v2 13 → WH v1 v2 T → WRy v1 v2 T → kk ≤ 200 + 35 * (c + 1) → nn ≤ 13000 + 8200 * (c + 1) → X23 v1 v2 v3 x kk nn T) (h : LI v1 v2 v3 v4 kk nn S c) : P_L_law_2341 scL scx Q X23 v1 v2 v3 v4 kk nn S := by
  obtain ⟨hI, o1, o2, o3, l3, tp, fa, wh, wr, hv, hk, hn⟩ := h
  obtain ⟨AA, GG, wr, gb⟩ := wr
  unfold P_L_law_2341
  intro x1128 ex1128
  have back := hb x1128 ex1128
  exact back _ _ _ hI o1 o2 o3 l3 tp fa wh ⟨AA, GG, wr, gb⟩ (by omega) (by omega)
end
section
theorem uz_1 {S : HS} {a : Nat} (E : S = nW S00 a 9 0) : UZ S := by
  have r : ∀ x j, fR S x j = none := fun x j => by
    rw [E]
    by_cases h : x = a
    · rw [h]
      exact congrFun (va_up_self (fR S00) a (fun _ => none)) j
    · exact congrFun (va_up_ne (fR S00) _ h) j
  refine ⟨⟨fun x j b e => ?_, fun x j x' j' b e => ?_⟩, fun x o => ?_⟩
  · rw [r] at e; cases e
  · rw [r] at e; cases e
  · exfalso
    rw [E] at o
    obtain ⟨o1, o2⟩ := o
    have o1 : x ∈ ([] : List Nat) ++ [a] := o1
    have o1 : x = a := by simpa using o1
    have o2 : va_up (hK S00) a 9 x = 8 := o2
    rw [o1, va_up_self] at o2
    exact absurd o2 (by decide)
theorem iv_arr {S T : HS} {a q n : Nat} (hI : IV S) (ha : a ∉ hL S) (E1 : T = nW S a q n) (hq : 12 ≤ q ∧ q < 16) : IV T := by
  have h := x_arr (E := []) (by rw [ms_nil]; exact hI) ha (by simp) E1 hq
  rw [ms_nil] at h
  exact h
theorem sc_cmp {L c : Nat} {v4 : Int32} (hL : L ≤ 4096) (hv : v4 = nI (8 * c)) (hcc : c ≤ 513) (h : ¬ (nI L - (8 : Int32)) < v4) : 8 * c + 8 ≤ L := by
  have e8 : (8 : Int32).toInt = 8 := by decide
  have eL : (nI L).toInt = (L : Int) := nI_toInt (by omega)
  have ec : (nI (8 * c)).toInt = ((8 * c : Nat) : Int) := nI_toInt (by omega)
  have es : (nI L - (8 : Int32)).toInt = (L : Int) - 8 := by
    rw [Int32.toInt_sub, eL, e8]
    exact Int.bmod_eq_of_le (by omega) (by omega)
  have h1 := Int32.le_iff_toInt_le.mp (Int32.not_lt.mp h)
  rw [hv, ec, es] at h1
  omega
theorem sc_next {v4 x : Int32} {c : Nat} (hv : v4 = nI (8 * c)) (hx : x = v4 + (8 : Int32)) : x = nI (8 * (c + 1)) := by
  have h8 : (8 : Int32) = nI 8 := by decide
  have e : 8 * c + 8 = 8 * (c + 1) := by omega
  rw [hx, hv, h8, nI_add, e]
set_option maxRecDepth 20000 in
set_option maxHeartbeats 4000000 in
theorem lp_L_law {scL : Nat} {scx : Nat → Int32} {Q : Int32 → HS → Prop} {v1 v2 v3 : Nat} (hL : scL ≤ 4096) (hQ : ∀ S, Q 1 S) : ∀ (d c : Nat), c + d = 513 → ∀ (v4 : Int32) (kk nn : Nat) (S : HS), LI v1 v2 v3 v4 kk nn S c → ∀ X23 : Nat → Nat → Nat → Int32 → Nat → Nat → HS → Prop, (∀ (v1 v2 v3 : Nat) (v4 : Int32) (kk nn : Nat) (S : HS), B_L_law_23 scL scx Q X23 v1 v2 v3 v4 kk nn S → X23 v1 v2 v3 v4 kk nn S) → X23 v1 v2 v3 v4 kk nn S := by
  intro d
  induction d with
  | zero =>
    intro c hcd v4 kk nn S h X23 hX
    have h' := h
    obtain ⟨-, -, -, -, -, -, -, -, -, hv, hk, hn⟩ := h'
    refine hX _ _ _ _ _ _ _ ⟨fun _ => ⟨by show _ ≤ 601024; omega, by show _ ≤ 7293034; omega, rfl, hQ S⟩, fun hcn => ?_⟩
    have hc := sc_cmp hL hv (by omega) hcn
    omega
  | succ d ih =>
    intro c hcd v4 kk nn S h X23 hX
    have h' := h
    obtain ⟨-, -, -, -, -, -, -, -, -, hv, hk, hn⟩ := h'
    refine hX _ _ _ _ _ _ _ ⟨fun _ => ⟨by show _ ≤ 601024; omega, by show _ ≤ 7293034; omega, rfl, hQ S⟩, fun hcn => ?_⟩
    have hc := sc_cmp hL hv (by omega) hcn
    have hb : ∀ x : Int32, x = v4 + (8 : Int32) → ∀ (kk nn : Nat) (T : HS), IV T → ob T v1 9 → ob T v2 11 → ob T v3 14 → hN T v3 = 1 → TT v1 v2 T → fI T v1 7 = fI T v2 13 → WH v1 v2 T → WRy v1 v2 T → kk ≤ 200 + 35 * (c + 1) → nn ≤ 13000 + 8200 * (c + 1) → X23 v1 v2 v3 x kk nn T := fun x ex kk nn T i1 i2 i3 i4 i5 i6 i6a i6b i6c i7 i8 => ih (c + 1) (by omega) x kk nn T ⟨i1, i2, i3, i4, i5, i6, i6a, i6b, i6c, sc_next hv ex, i7, i8⟩ X23 hX
    refine ⟨sc_in0 hv hc hL, fun x ex => ?_⟩
    exact ⟨fun _ => a_L_law_2341 hL hc hb h, fun _ => a_L_law_216 hL hc hb h, fun _ => a_L_law_289 hL hc hb h, fun _ => a_L_law_314 hL hc hb h, fun _ => a_L_law_327 hL hc hb h, fun _ => a_L_law_340 hL hc hb h, fun _ => a_L_law_457 hL hc hb h, fun _ => a_L_law_560 hL hc hb h, fun _ => a_L_law_663 hL hc hb h, fun _ => a_L_law_712 hL hc hb h, fun _ => a_L_law_761 hL hc hb h, fun _ => a_L_law_834 hL hc hb h, fun _ => a_L_law_895 hL hc hb h, fun _ => a_L_law_984 hL hc hb h, fun _ => a_L_law_1045 hL hc hb h, fun _ => a_L_law_1106 hL hc hb h, fun _ => a_L_law_1183 hL hc hb h, fun _ => a_L_law_1232 hL hc hb h, fun _ => a_L_law_1349 hL hc hb h, fun _ => a_L_law_1436 hL hc hb h, fun _ => a_L_law_1539 hL hc hb h, fun _ => a_L_law_1612 hL hc hb h, fun _ => a_L_law_1685 hL hc hb h, fun _ => a_L_law_1772 hL hc hb h, fun _ => a_L_law_1833 hL hc hb h, fun _ => a_L_law_1858 hL hc hb h, fun _ => a_L_law_1895 hL hc hb h, fun _ => a_L_law_1908 hL hc hb h, fun _ => a_L_law_1969 hL hc hb h, fun _ => a_L_law_2018 hL hc hb h, fun _ => a_L_law_2043 hL hc hb h, fun _ => a_L_law_2096 hL hc hb h, fun _ => a_L_law_2137 hL hc hb h, fun _ => a_L_law_2150 hL hc hb h, fun _ => a_L_law_2163 hL hc hb h, fun _ => a_L_law_2176 hL hc hb h, fun _ => a_L_law_2201 hL hc hb h, fun _ => a_L_law_2238 hL hc hb h, fun _ => a_L_law_2275 hL hc hb h, fun _ => a_L_law_2303 hL hc hb h, fun _ => a_L_law_2328 hL hc hb h⟩
theorem p_L_law {scL : Nat} {scx : Nat → Int32} {Q : Int32 → HS → Prop} (hL : scL ≤ 4096) (hQ : ∀ S, Q 1 S) : P_L_law_0 scL scx Q 0 0 S00 := by
  unfold P_L_law_0
  refine ⟨by decide, by decide, fun a1 q1 S1 e1 => ⟨by decide, by decide, ?_⟩⟩
  have hc : P_X9_init a1 (fun T => IV T ∧ ob T a1 9 ∧ fI T a1 1 = 0) S1 := m_X9_new e1 (fun T i o _ t => ⟨i, o, t⟩)
  refine cm_X9_init (kg_X9_init hc) (ku_X9_init hc (uz_1 e1)) (fun S2 h2 hu _ => ?_)
  obtain ⟨⟨i2, o1, t2⟩, K0⟩ := h2
  have uz := hu.2.1
  have ob1 : ob S1 a1 9 := ob_of_new e1
  have z1 : fI S1 a1 = fun _ => 0 := by rw [e1]; exact va_up_self _ _ _
  have f7 : fI S2 a1 7 = 0 := (K0.2 (9, 7) (by decide) a1 ob1).trans (by rw [z1])
  have f9 : fI S2 a1 9 = 0 := (K0.2 (9, 9) (by decide) a1 ob1).trans (by rw [z1])
  refine ⟨by decide, by decide, fun a2 q2 S3 e3 => ⟨by decide, by decide, ?_⟩⟩
  have hm : P_X11_init a2 (fun T => IV T ∧ Gr S2 T ∧ ob T a2 11 ∧ FRI [] [] S2 T) S3 := m_X11_init i2 q2 e3 (fun T i g1 _ f o _ => ⟨i, g1, o, f⟩)
  refine cm_X11_init (sq_X11_init hm e3) hm (fun S4 h4 _ _ => ?_)
  obtain ⟨⟨i4, g4, o2, fc⟩, F, g, bx, h5, h6, h13, hm2, -, h3n⟩ := h4
  refine ⟨by decide, by decide, fun a3 q3 S5 e5 => ?_⟩
  subst e3
  have tt := tt_start i4 q2 o1 i2 t2 bx h5 h6
  have wrs := fun (a3 : Nat) (U : HS) => wr_start (a3 := a3) (U := U) i2 o1 uz q2 bx h3n
  have f7 := (fc.1 9 7 (by decide) (by decide) a1 o1).trans f7
  have f9 := (fc.1 9 9 (by decide) (by decide) a1 o1).trans f9
  have bm := bx.2.2.2.2.2.2.1
  have o1 := gr_ob g4 o1
  have n1 := (xp_new (v := a3) q3 e5 a1 o1.1).2.2.2 (fun z => q3 (z ▸ o1.1))
  have n2 := (xp_new (v := a3) q3 e5 a2 o2.1).2.2.2 (fun z => q3 (z ▸ o2.1))
  have tt := tt_K tt o1 o2 (k2_W (k2_rf S4) q3 e5) (by rw [n1.2.2]) (by rw [n1.1]) (by rw [n2.2.2]) (by rw [n2.1])
  have fa : fI S5 a1 7 = fI S5 a2 13 := by rw [n1.1, n2.1, f7, bm, h13]
  have wh : WH a1 a2 S5 := by
    unfold WH
    rw [n1.1, n2.1, f9, bm, hm2]
    exact ⟨fun z => absurd z (by decide), fun _ => rfl⟩
  exact fun X23 hX => lp_L_law hL hQ 513 0 rfl _ _ _ _ ⟨iv_arr i4 q3 e5 (by omega), gr_ob (gr_of_new e5 q3) o1, gr_ob (gr_of_new e5 q3) o2, ob_of_new e5, by rw [e5]; exact va_up_self _ _ _, tt, fa, wh, ⟨A00, G00, wrs a3 S5 q3 e5, gb_00⟩, by rw [Nat.mul_zero, nI_0], by omega, by omega⟩ X23 hX
/-- the law's walk, out of what is still open: C, E (the start) and ht (led) -/
theorem whole_open {X : CX} {scb scL : Nat} {scx : Nat → Int32} (C : Cx X cL_law RL 7 rm_L_law) (E : LE X scb scL scx (fun _ _ => True)) (ht : LD X) (hL : scL ≤ 4096) : WS X 7 0 0 0 [(0, .ref scb)] [] S00 := T_L_law_0 C E ht trivial (p_L_law hL (fun _ => trivial))
end
