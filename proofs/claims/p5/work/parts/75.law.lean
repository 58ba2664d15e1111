theorem sc_nI {v4 x : Int32} {c j : Nat} (hv : v4 = nI (8 * c)) (hx : x = v4 + nI j) : x = nI (8 * c + j) := by rw [hx, hv, nI_add]
theorem sc_in {v4 x k : Int32} {c j L : Nat} (hv : v4 = nI (8 * c)) (hc : 8 * c + 8 ≤ L) (hL : L ≤ 4096) (hx : x = v4 + k) (hj : j < 8) (hk : k = nI j) : vp_in x L := by
  have e : x = nI (8 * c + j) := sc_nI hv (by rw [hx, hk])
  rw [e]
  exact nI_in (by omega) (by omega)
theorem sc_in0 {v4 : Int32} {c L : Nat} (hv : v4 = nI (8 * c)) (hc : 8 * c + 8 ≤ L) (hL : L ≤ 4096) : vp_in v4 L := by
  rw [hv]
  exact nI_in (by omega) (by omega)
/-- what holds at the head of the law's loop, c calls done -/
def LI (v1 v2 v3 : Nat) (v4 : Int32) (kk nn : Nat) (S : HS) (c : Nat) : Prop := IV S ∧ ob S v1 9 ∧ ob S v2 11 ∧ ob S v3 14 ∧ hN S v3 = 1 ∧ TT v1 v2 S ∧ fI S v1 7 = fI S v2 13 ∧ WH v1 v2 S ∧ v4 = nI (8 * c) ∧ kk ≤ 200 + 35 * c ∧ nn ≤ 13000 + 8200 * c

set_option maxHeartbeats 4000000 in
set_option maxRecDepth 20000 in
theorem a_L_law_216 {scL : Nat} {scx : Nat → Int32} {Q : Int32 → HS → Prop} {X23 : Nat → Nat → Nat → Int32 → Nat → Nat → HS → Prop} {v1 v2 v3 : Nat} {v4 : Int32} {kk nn : Nat} {S : HS} {c : Nat} (hL : scL ≤ 4096) (hc : 8 * c + 8 ≤ scL) (hb : ∀ x : Int32, x = v4 + (8 : Int32) → ∀ (kk nn : Nat) (T : HS), IV T → ob T v1 9 → ob T v2 11 → ob T v3 14 → hN T v3 = 1 → TT v1 v2 T → fI T v1 7 = fI T v2 13 → WH v1 v2 T → kk ≤ 200 + 35 * (c + 1) → nn ≤ 13000 + 8200 * (c + 1) → X23 v1 v2 v3 x kk nn T) (h : LI v1 v2 v3 v4 kk nn S c) : P_L_law_216 scL scx Q X23 v1 v2 v3 v4 kk nn S := by
  obtain ⟨hI, o1, o2, o3, l3, tp, fa, wh, hv, hk, hn⟩ := h
  unfold P_L_law_216
  intro x1 ex1
  refine ⟨sc_in (j := 1) hv hc hL ex1 (by omega) (by decide), ?_⟩
  intro x2 ex2
  intro x3 ex3
  refine ⟨sc_in (j := 2) hv hc hL ex3 (by omega) (by decide), ?_⟩
  intro x4 ex4
  intro x5 ex5
  refine ⟨sc_in (j := 3) hv hc hL ex5 (by omega) (by decide), ?_⟩
  intro x6 ex6
  intro x7 ex7
  refine ⟨sc_in (j := 4) hv hc hL ex7 (by omega) (by decide), ?_⟩
  intro x8 ex8
  intro x9 ex9
  refine ⟨sc_in (j := 5) hv hc hL ex9 (by omega) (by decide), ?_⟩
  intro x10 ex10
  refine ⟨o1, ?_⟩
  refine ⟨by show _ ≤ 601024; omega, by show _ ≤ 7293034; omega, ?_⟩
  have tt0 := tp
  have c1 := o1
  have c2 := o2
  obtain ⟨f9, t9, a9, b9, ht9, TPc, TPm, hab9, hB9⟩ := tp
  refine ml_X9_feed hI o1 TPc ht9 (fun x12 S11 hJ g13 fc14 pp wa1 => ?_)
  have TPd := tp_ft TPm wa1.1 (Ne.symm hab9) (ob_ne TPm.2.2.2.1 o1 (by decide)) (ob_ne o2 TPc.2.2.2.1 (by decide)) (ob_ne o2 o1 (by decide))
  have fa := fa_fri fa o1 o2 fc14 (by decide) (by decide)
  have wh := wh_fri wh o1 o2 fc14 (by decide) (by decide) (by decide)
  have hI := hJ
  have l3 := (gr_len g13 o3).trans l3
  have o1 := gr_ob g13 o1
  have o2 := gr_ob g13 o2
  have o3 := gr_ob g13 o3
  intro _
  intro x15 ex15
  refine ⟨sc_in (j := 1) hv hc hL ex15 (by omega) (by decide), ?_⟩
  intro x16 ex16
  intro x17 ex17
  refine ⟨sc_in (j := 2) hv hc hL ex17 (by omega) (by decide), ?_⟩
  intro x18 ex18
  intro x19 ex19
  refine ⟨sc_in (j := 3) hv hc hL ex19 (by omega) (by decide), ?_⟩
  intro x20 ex20
  intro x21 ex21
  refine ⟨sc_in (j := 4) hv hc hL ex21 (by omega) (by decide), ?_⟩
  intro x22 ex22
  intro x23 ex23
  refine ⟨sc_in (j := 5) hv hc hL ex23 (by omega) (by decide), ?_⟩
  intro x24 ex24
  refine ⟨o2, ?_⟩
  refine ⟨by show _ ≤ 601024; omega, by show _ ≤ 7293034; omega, ?_⟩
  refine ml_X11_feed hI o2 TPd ht9 (fun x26 S25 hJ g27 fc28 pp wa2 => ?_)
  have fe0 := tt_feed c1 c2 ht9 TPc TPm hab9 hB9 wa1.1 wa1.2 wa2.1 (by subst_vars; exact wa2.2)
  have tp := fe0.1
  have fe := fe0.2
  have fa := fa_fri fa o1 o2 fc28 (by decide) (by decide)
  have wh := wh_fri wh o1 o2 fc28 (by decide) (by decide) (by decide)
  have hI := hJ
  have l3 := (gr_len g27 o3).trans l3
  have o1 := gr_ob g27 o1
  have o2 := gr_ob g27 o2
  have o3 := gr_ob g27 o3
  intro _
  unfold P_L_law_2341
  intro x29 ex29
  have back := hb x29 ex29
  exact back _ _ _ hI o1 o2 o3 l3 tp fa wh (by omega) (by omega)
set_option maxHeartbeats 4000000 in
set_option maxRecDepth 20000 in
theorem a_L_law_289 {scL : Nat} {scx : Nat → Int32} {Q : Int32 → HS → Prop} {X23 : Nat → Nat → Nat → Int32 → Nat → Nat → HS → Prop} {v1 v2 v3 : Nat} {v4 : Int32} {kk nn : Nat} {S : HS} {c : Nat} (hL : scL ≤ 4096) (hc : 8 * c + 8 ≤ scL) (hb : ∀ x : Int32, x = v4 + (8 : Int32) → ∀ (kk nn : Nat) (T : HS), IV T → ob T v1 9 → ob T v2 11 → ob T v3 14 → hN T v3 = 1 → TT v1 v2 T → fI T v1 7 = fI T v2 13 → WH v1 v2 T → kk ≤ 200 + 35 * (c + 1) → nn ≤ 13000 + 8200 * (c + 1) → X23 v1 v2 v3 x kk nn T) (h : LI v1 v2 v3 v4 kk nn S c) : P_L_law_289 scL scx Q X23 v1 v2 v3 v4 kk nn S := by
  obtain ⟨hI, o1, o2, o3, l3, tp, fa, wh, hv, hk, hn⟩ := h
  unfold P_L_law_289
  intro x30 ex30
  refine ⟨sc_in (j := 1) hv hc hL ex30 (by omega) (by decide), ?_⟩
  intro x31 ex31
  refine ⟨o1, ?_⟩
  refine ⟨by show _ ≤ 601024; omega, by show _ ≤ 7293034; omega, ?_⟩
  have tt0 := tp
  have c1 := o1
  have c2 := o2
  obtain ⟨f9, t9, a9, b9, ht9, TPc, TPm, hab9, hB9⟩ := tp
  refine ml_X9_world hI o1 TPc ht9 (fun x33 S32 hJ g34 fc35 pp Kg34 wa1 => ?_)
  have TPd := tp_mid TPm o2 Kg34 fc35 (by decide) (by decide)
  have fp1 := pp
  have Kw := Kg34
  have fw := fc35
  have hI := hJ
  have l3 := (gr_len g34 o3).trans l3
  have o1 := gr_ob g34 o1
  have o2 := gr_ob g34 o2
  have o3 := gr_ob g34 o3
  intro _
  intro x36 ex36
  refine ⟨sc_in (j := 1) hv hc hL ex36 (by omega) (by decide), ?_⟩
  intro x37 ex37
  refine ⟨o2, ?_⟩
  refine ⟨by show _ ≤ 601024; omega, by show _ ≤ 7293034; omega, ?_⟩
  refine ml_X11_world hI o2 TPd ht9 hB9 (fun x39 S38 hJ g40 fc41 pp Kg40 wa2 => ?_)
  have tp := tt_world tt0 c1 c2 Kw Kg40 fw fc41 (by decide) (by decide) (by decide) (by decide) (by decide) (by decide) fp1 (by subst_vars; exact pp)
  have fe := wc_wm ht9 wa1 (by subst_vars; exact wa2)
  have fa := fa_world ht9 wa1 (by subst_vars; exact wa2) fa o1 c2 fw fc41 (by decide) (by decide)
  have wh := wh_world ht9 wa1 (by subst_vars; exact wa2) o1 fc41 (by decide) (by decide)
  have hI := hJ
  have l3 := (gr_len g40 o3).trans l3
  have o1 := gr_ob g40 o1
  have o2 := gr_ob g40 o2
  have o3 := gr_ob g40 o3
  intro _
  unfold P_L_law_2341
  intro x42 ex42
  have back := hb x42 ex42
  exact back _ _ _ hI o1 o2 o3 l3 tp fa wh (by omega) (by omega)
set_option maxHeartbeats 4000000 in
set_option maxRecDepth 20000 in
theorem a_L_law_314 {scL : Nat} {scx : Nat → Int32} {Q : Int32 → HS → Prop} {X23 : Nat → Nat → Nat → Int32 → Nat → Nat → HS → Prop} {v1 v2 v3 : Nat} {v4 : Int32} {kk nn : Nat} {S : HS} {c : Nat} (hL : scL ≤ 4096) (hc : 8 * c + 8 ≤ scL) (hb : ∀ x : Int32, x = v4 + (8 : Int32) → ∀ (kk nn : Nat) (T : HS), IV T → ob T v1 9 → ob T v2 11 → ob T v3 14 → hN T v3 = 1 → TT v1 v2 T → fI T v1 7 = fI T v2 13 → WH v1 v2 T → kk ≤ 200 + 35 * (c + 1) → nn ≤ 13000 + 8200 * (c + 1) → X23 v1 v2 v3 x kk nn T) (h : LI v1 v2 v3 v4 kk nn S c) : P_L_law_314 scL scx Q X23 v1 v2 v3 v4 kk nn S := by
  obtain ⟨hI, o1, o2, o3, l3, tp, fa, wh, hv, hk, hn⟩ := h
  unfold P_L_law_314
  refine ⟨o1, ?_⟩
  refine ⟨by show _ ≤ 601024; omega, by show _ ≤ 7293034; omega, ?_⟩
  refine mv_X9_fault hI o1 (fun x44 S43 hJ g45 pp Kg45 vv1 => ?_)
  subst pp
  intro _
  refine ⟨o2, ?_⟩
  refine ⟨by show _ ≤ 601024; omega, by show _ ≤ 7293034; omega, ?_⟩
  refine mv_X11_fault hI o2 (fun x48 S47 hJ g49 fc50 Kg49 vv2 => ?_)
  have fe := vv1.trans (fa.trans vv2.symm)
  have tp := tt_fri tp o1 o2 Kg49 fc50 (by decide) (by decide) (by decide) (by decide)
  have fa := fa_fri fa o1 o2 fc50 (by decide) (by decide)
  have wh := wh_fri wh o1 o2 fc50 (by decide) (by decide) (by decide)
  have hI := hJ
  have l3 := (gr_len g49 o3).trans l3
  have o1 := gr_ob g49 o1
  have o2 := gr_ob g49 o2
  have o3 := gr_ob g49 o3
  intro _
  unfold P_L_law_2341
  intro x51 ex51
  have back := hb x51 ex51
  exact back _ _ _ hI o1 o2 o3 l3 tp fa wh (by omega) (by omega)
set_option maxHeartbeats 4000000 in
set_option maxRecDepth 20000 in
theorem a_L_law_327 {scL : Nat} {scx : Nat → Int32} {Q : Int32 → HS → Prop} {X23 : Nat → Nat → Nat → Int32 → Nat → Nat → HS → Prop} {v1 v2 v3 : Nat} {v4 : Int32} {kk nn : Nat} {S : HS} {c : Nat} (hL : scL ≤ 4096) (hc : 8 * c + 8 ≤ scL) (hb : ∀ x : Int32, x = v4 + (8 : Int32) → ∀ (kk nn : Nat) (T : HS), IV T → ob T v1 9 → ob T v2 11 → ob T v3 14 → hN T v3 = 1 → TT v1 v2 T → fI T v1 7 = fI T v2 13 → WH v1 v2 T → kk ≤ 200 + 35 * (c + 1) → nn ≤ 13000 + 8200 * (c + 1) → X23 v1 v2 v3 x kk nn T) (h : LI v1 v2 v3 v4 kk nn S c) : P_L_law_327 scL scx Q X23 v1 v2 v3 v4 kk nn S := by
  obtain ⟨hI, o1, o2, o3, l3, tp, fa, wh, hv, hk, hn⟩ := h
  unfold P_L_law_327
  refine ⟨o1, ?_⟩
  refine ⟨by show _ ≤ 601024; omega, by show _ ≤ 7293034; omega, ?_⟩
  refine mv_X9_where hI o1 (fun x53 S52 hJ g54 pp Kg54 vv1 => ?_)
  subst pp
  intro _
  refine ⟨o2, ?_⟩
  refine ⟨by show _ ≤ 601024; omega, by show _ ≤ 7293034; omega, ?_⟩
  refine mv_X11_where hI o2 (fun x57 S56 hJ g58 fc59 Kg58 vv2 => ?_)
  have fe := wh_eq wh vv1 vv2
  have tp := tt_fri tp o1 o2 Kg58 fc59 (by decide) (by decide) (by decide) (by decide)
  have fa := fa_fri fa o1 o2 fc59 (by decide) (by decide)
  have wh := wh_fri wh o1 o2 fc59 (by decide) (by decide) (by decide)
  have hI := hJ
  have l3 := (gr_len g58 o3).trans l3
  have o1 := gr_ob g58 o1
  have o2 := gr_ob g58 o2
  have o3 := gr_ob g58 o3
  intro _
  refine ⟨fun c60 => ?_, fun c60 => absurd fe c60⟩
  unfold P_L_law_2341
  intro x61 ex61
  have back := hb x61 ex61
  exact back _ _ _ hI o1 o2 o3 l3 tp fa wh (by omega) (by omega)
set_option maxHeartbeats 4000000 in
set_option maxRecDepth 20000 in
theorem a_L_law_340 {scL : Nat} {scx : Nat → Int32} {Q : Int32 → HS → Prop} {X23 : Nat → Nat → Nat → Int32 → Nat → Nat → HS → Prop} {v1 v2 v3 : Nat} {v4 : Int32} {kk nn : Nat} {S : HS} {c : Nat} (hL : scL ≤ 4096) (hc : 8 * c + 8 ≤ scL) (hb : ∀ x : Int32, x = v4 + (8 : Int32) → ∀ (kk nn : Nat) (T : HS), IV T → ob T v1 9 → ob T v2 11 → ob T v3 14 → hN T v3 = 1 → TT v1 v2 T → fI T v1 7 = fI T v2 13 → WH v1 v2 T → kk ≤ 200 + 35 * (c + 1) → nn ≤ 13000 + 8200 * (c + 1) → X23 v1 v2 v3 x kk nn T) (h : LI v1 v2 v3 v4 kk nn S c) : P_L_law_340 scL scx Q X23 v1 v2 v3 v4 kk nn S := by
  obtain ⟨hI, o1, o2, o3, l3, tp, fa, wh, hv, hk, hn⟩ := h
  unfold P_L_law_340
  intro x62 ex62
  refine ⟨sc_in (j := 1) hv hc hL ex62 (by omega) (by decide), ?_⟩
  intro x63 ex63
  intro x64 ex64
  refine ⟨sc_in (j := 2) hv hc hL ex64 (by omega) (by decide), ?_⟩
  intro x65 ex65
  intro x66 ex66
  refine ⟨sc_in (j := 3) hv hc hL ex66 (by omega) (by decide), ?_⟩
  intro x67 ex67
  intro x68 ex68
  refine ⟨sc_in (j := 4) hv hc hL ex68 (by omega) (by decide), ?_⟩
  intro x69 ex69
  intro x70 ex70
  refine ⟨sc_in (j := 5) hv hc hL ex70 (by omega) (by decide), ?_⟩
  intro x71 ex71
  intro x72 ex72
  refine ⟨sc_in (j := 6) hv hc hL ex72 (by omega) (by decide), ?_⟩
  intro x73 ex73
  intro x74 ex74
  refine ⟨sc_in (j := 7) hv hc hL ex74 (by omega) (by decide), ?_⟩
  intro x75 ex75
  refine ⟨fun c76 => ?_, fun c76 => ?_⟩
  · unfold P_L_law_393
    refine ⟨o1, ?_⟩
    refine ⟨by show _ ≤ 601024; omega, by show _ ≤ 7293034; omega, ?_⟩
    refine mn_X9_face hI o1 (fun x78 S77 hJ g79 fc80 Kg79 nf1 => ?_)
    have tp := tt_fri tp o1 o2 Kg79 fc80 (by decide) (by decide) (by decide) (by decide)
    have fa := fa_fri fa o1 o2 fc80 (by decide) (by decide)
    have hI := hJ
    have l3 := (gr_len g79 o3).trans l3
    have o1 := gr_ob g79 o1
    have o2 := gr_ob g79 o2
    have o3 := gr_ob g79 o3
    intro _
    intro x81 ex81
    refine ⟨sc_in (j := 1) hv hc hL ex81 (by omega) (by decide), ?_⟩
    intro x82 ex82
    intro x83 ex83
    refine ⟨sc_in (j := 2) hv hc hL ex83 (by omega) (by decide), ?_⟩
    intro x84 ex84
    intro x85 ex85
    refine ⟨sc_in (j := 3) hv hc hL ex85 (by omega) (by decide), ?_⟩
    intro x86 ex86
    intro x87 ex87
    refine ⟨sc_in (j := 4) hv hc hL ex87 (by omega) (by decide), ?_⟩
    intro x88 ex88
    intro x89 ex89
    refine ⟨sc_in (j := 5) hv hc hL ex89 (by omega) (by decide), ?_⟩
    intro x90 ex90
    intro x91 ex91
    refine ⟨sc_in (j := 6) hv hc hL ex91 (by omega) (by decide), ?_⟩
    intro x92 ex92
    intro x93 ex93
    refine ⟨sc_in (j := 7) hv hc hL ex93 (by omega) (by decide), ?_⟩
    intro x94 ex94
    refine ⟨fun c95 => ?_, fun c95 => ?_⟩
    · unfold P_L_law_450
      refine ⟨o2, ?_⟩
      refine ⟨by show _ ≤ 601024; omega, by show _ ≤ 7293034; omega, ?_⟩
      refine mn_X11_face hI o2 (fun x97 S96 hJ g98 fc99 Kg98 nf2 => ?_)
      have tp := tt_fri tp o1 o2 Kg98 fc99 (by decide) (by decide) (by decide) (by decide)
      have fa := fa_fri fa o1 o2 fc99 (by decide) (by decide)
      have wh := wh_set nf1 fc99 (by decide) nf2
      have hI := hJ
      have l3 := (gr_len g98 o3).trans l3
      have o1 := gr_ob g98 o1
      have o2 := gr_ob g98 o2
      have o3 := gr_ob g98 o3
      intro _
      unfold P_L_law_2341
      intro x100 ex100
      have back := hb x100 ex100
      exact back _ _ _ hI o1 o2 o3 l3 tp fa wh (by omega) (by omega)
    · unfold P_L_law_450
      refine ⟨o2, ?_⟩
      refine ⟨by show _ ≤ 601024; omega, by show _ ≤ 7293034; omega, ?_⟩
      refine mn_X11_face hI o2 (fun x102 S101 hJ g103 fc104 Kg103 nf2 => ?_)
      have tp := tt_fri tp o1 o2 Kg103 fc104 (by decide) (by decide) (by decide) (by decide)
      have fa := fa_fri fa o1 o2 fc104 (by decide) (by decide)
      have wh := wh_set nf1 fc104 (by decide) nf2
      have hI := hJ
      have l3 := (gr_len g103 o3).trans l3
      have o1 := gr_ob g103 o1
      have o2 := gr_ob g103 o2
      have o3 := gr_ob g103 o3
      intro _
      unfold P_L_law_2341
      intro x105 ex105
      have back := hb x105 ex105
      exact back _ _ _ hI o1 o2 o3 l3 tp fa wh (by omega) (by omega)
  · unfold P_L_law_393
    refine ⟨o1, ?_⟩
    refine ⟨by show _ ≤ 601024; omega, by show _ ≤ 7293034; omega, ?_⟩
    refine mn_X9_face hI o1 (fun x107 S106 hJ g108 fc109 Kg108 nf1 => ?_)
    have tp := tt_fri tp o1 o2 Kg108 fc109 (by decide) (by decide) (by decide) (by decide)
    have fa := fa_fri fa o1 o2 fc109 (by decide) (by decide)
    have hI := hJ
    have l3 := (gr_len g108 o3).trans l3
    have o1 := gr_ob g108 o1
    have o2 := gr_ob g108 o2
    have o3 := gr_ob g108 o3
    intro _
    intro x110 ex110
    refine ⟨sc_in (j := 1) hv hc hL ex110 (by omega) (by decide), ?_⟩
    intro x111 ex111
    intro x112 ex112
    refine ⟨sc_in (j := 2) hv hc hL ex112 (by omega) (by decide), ?_⟩
    intro x113 ex113
    intro x114 ex114
    refine ⟨sc_in (j := 3) hv hc hL ex114 (by omega) (by decide), ?_⟩
    intro x115 ex115
    intro x116 ex116
    refine ⟨sc_in (j := 4) hv hc hL ex116 (by omega) (by decide), ?_⟩
    intro x117 ex117
    intro x118 ex118
    refine ⟨sc_in (j := 5) hv hc hL ex118 (by omega) (by decide), ?_⟩
    intro x119 ex119
    intro x120 ex120
    refine ⟨sc_in (j := 6) hv hc hL ex120 (by omega) (by decide), ?_⟩
    intro x121 ex121
    intro x122 ex122
    refine ⟨sc_in (j := 7) hv hc hL ex122 (by omega) (by decide), ?_⟩
    intro x123 ex123
    refine ⟨fun c124 => ?_, fun c124 => ?_⟩
    · unfold P_L_law_450
      refine ⟨o2, ?_⟩
      refine ⟨by show _ ≤ 601024; omega, by show _ ≤ 7293034; omega, ?_⟩
      refine mn_X11_face hI o2 (fun x126 S125 hJ g127 fc128 Kg127 nf2 => ?_)
      have tp := tt_fri tp o1 o2 Kg127 fc128 (by decide) (by decide) (by decide) (by decide)
      have fa := fa_fri fa o1 o2 fc128 (by decide) (by decide)
      have wh := wh_set nf1 fc128 (by decide) nf2
      have hI := hJ
      have l3 := (gr_len g127 o3).trans l3
      have o1 := gr_ob g127 o1
      have o2 := gr_ob g127 o2
      have o3 := gr_ob g127 o3
      intro _
      unfold P_L_law_2341
      intro x129 ex129
      have back := hb x129 ex129
      exact back _ _ _ hI o1 o2 o3 l3 tp fa wh (by omega) (by omega)
    · unfold P_L_law_450
      refine ⟨o2, ?_⟩
      refine ⟨by show _ ≤ 601024; omega, by show _ ≤ 7293034; omega, ?_⟩
      refine mn_X11_face hI o2 (fun x131 S130 hJ g132 fc133 Kg132 nf2 => ?_)
      have tp := tt_fri tp o1 o2 Kg132 fc133 (by decide) (by decide) (by decide) (by decide)
      have fa := fa_fri fa o1 o2 fc133 (by decide) (by decide)
      have wh := wh_set nf1 fc133 (by decide) nf2
      have hI := hJ
      have l3 := (gr_len g132 o3).trans l3
      have o1 := gr_ob g132 o1
      have o2 := gr_ob g132 o2
      have o3 := gr_ob g132 o3
      intro _
      unfold P_L_law_2341
      intro x134 ex134
      have back := hb x134 ex134
      exact back _ _ _ hI o1 o2 o3 l3 tp fa wh (by omega) (by omega)
set_option maxHeartbeats 4000000 in
set_option maxRecDepth 20000 in
theorem a_L_law_457 {scL : Nat} {scx : Nat → Int32} {Q : Int32 → HS → Prop} {X23 : Nat → Nat → Nat → Int32 → Nat → Nat → HS → Prop} {v1 v2 v3 : Nat} {v4 : Int32} {kk nn : Nat} {S : HS} {c : Nat} (hL : scL ≤ 4096) (hc : 8 * c + 8 ≤ scL) (hb : ∀ x : Int32, x = v4 + (8 : Int32) → ∀ (kk nn : Nat) (T : HS), IV T → ob T v1 9 → ob T v2 11 → ob T v3 14 → hN T v3 = 1 → TT v1 v2 T → fI T v1 7 = fI T v2 13 → WH v1 v2 T → kk ≤ 200 + 35 * (c + 1) → nn ≤ 13000 + 8200 * (c + 1) → X23 v1 v2 v3 x kk nn T) (h : LI v1 v2 v3 v4 kk nn S c) : P_L_law_457 scL scx Q X23 v1 v2 v3 v4 kk nn S := by
  obtain ⟨hI, o1, o2, o3, l3, tp, fa, wh, hv, hk, hn⟩ := h
  unfold P_L_law_457
  intro x135 ex135
  refine ⟨sc_in (j := 1) hv hc hL ex135 (by omega) (by decide), ?_⟩
  intro x136 ex136
  intro x137 ex137
  refine ⟨sc_in (j := 2) hv hc hL ex137 (by omega) (by decide), ?_⟩
  intro x138 ex138
  intro x139 ex139
  refine ⟨sc_in (j := 3) hv hc hL ex139 (by omega) (by decide), ?_⟩
  intro x140 ex140
  intro x141 ex141
  refine ⟨sc_in (j := 4) hv hc hL ex141 (by omega) (by decide), ?_⟩
  intro x142 ex142
  intro x143 ex143
  refine ⟨sc_in (j := 5) hv hc hL ex143 (by omega) (by decide), ?_⟩
  intro x144 ex144
  intro x145 ex145
  refine ⟨sc_in (j := 6) hv hc hL ex145 (by omega) (by decide), ?_⟩
  intro x146 ex146
  refine ⟨fun c147 => ?_, fun c147 => ?_⟩
  · unfold P_L_law_503
    refine ⟨o1, ?_⟩
    refine ⟨by show _ ≤ 601024; omega, by show _ ≤ 7293034; omega, ?_⟩
    refine mn_X9_wet hI o1 (fun x149 S148 hJ g150 fc151 Kg150 nf1 => ?_)
    have tp := tt_fri tp o1 o2 Kg150 fc151 (by decide) (by decide) (by decide) (by decide)
    have fa := fa_fri fa o1 o2 fc151 (by decide) (by decide)
    have hI := hJ
    have l3 := (gr_len g150 o3).trans l3
    have o1 := gr_ob g150 o1
    have o2 := gr_ob g150 o2
    have o3 := gr_ob g150 o3
    intro _
    intro x152 ex152
    refine ⟨sc_in (j := 1) hv hc hL ex152 (by omega) (by decide), ?_⟩
    intro x153 ex153
    intro x154 ex154
    refine ⟨sc_in (j := 2) hv hc hL ex154 (by omega) (by decide), ?_⟩
    intro x155 ex155
    intro x156 ex156
    refine ⟨sc_in (j := 3) hv hc hL ex156 (by omega) (by decide), ?_⟩
    intro x157 ex157
    intro x158 ex158
    refine ⟨sc_in (j := 4) hv hc hL ex158 (by omega) (by decide), ?_⟩
    intro x159 ex159
    intro x160 ex160
    refine ⟨sc_in (j := 5) hv hc hL ex160 (by omega) (by decide), ?_⟩
    intro x161 ex161
    intro x162 ex162
    refine ⟨sc_in (j := 6) hv hc hL ex162 (by omega) (by decide), ?_⟩
    intro x163 ex163
    refine ⟨fun c164 => ?_, fun c164 => ?_⟩
    · unfold P_L_law_553
      refine ⟨o2, ?_⟩
      refine ⟨by show _ ≤ 601024; omega, by show _ ≤ 7293034; omega, ?_⟩
      refine mn_X11_wet hI o2 (fun x166 S165 hJ g167 fc168 Kg167 nf2 => ?_)
      have tp := tt_fri tp o1 o2 Kg167 fc168 (by decide) (by decide) (by decide) (by decide)
      have fa := fa_fri fa o1 o2 fc168 (by decide) (by decide)
      have wh := wh_set nf1 fc168 (by decide) nf2
      have hI := hJ
      have l3 := (gr_len g167 o3).trans l3
      have o1 := gr_ob g167 o1
      have o2 := gr_ob g167 o2
      have o3 := gr_ob g167 o3
      intro _
      unfold P_L_law_2341
      intro x169 ex169
      have back := hb x169 ex169
      exact back _ _ _ hI o1 o2 o3 l3 tp fa wh (by omega) (by omega)
    · unfold P_L_law_553
      refine ⟨o2, ?_⟩
      refine ⟨by show _ ≤ 601024; omega, by show _ ≤ 7293034; omega, ?_⟩
      refine mn_X11_wet hI o2 (fun x171 S170 hJ g172 fc173 Kg172 nf2 => ?_)
      have tp := tt_fri tp o1 o2 Kg172 fc173 (by decide) (by decide) (by decide) (by decide)
      have fa := fa_fri fa o1 o2 fc173 (by decide) (by decide)
      have wh := wh_set nf1 fc173 (by decide) nf2
      have hI := hJ
      have l3 := (gr_len g172 o3).trans l3
      have o1 := gr_ob g172 o1
      have o2 := gr_ob g172 o2
      have o3 := gr_ob g172 o3
      intro _
      unfold P_L_law_2341
      intro x174 ex174
      have back := hb x174 ex174
      exact back _ _ _ hI o1 o2 o3 l3 tp fa wh (by omega) (by omega)
  · unfold P_L_law_503
    refine ⟨o1, ?_⟩
    refine ⟨by show _ ≤ 601024; omega, by show _ ≤ 7293034; omega, ?_⟩
    refine mn_X9_wet hI o1 (fun x176 S175 hJ g177 fc178 Kg177 nf1 => ?_)
    have tp := tt_fri tp o1 o2 Kg177 fc178 (by decide) (by decide) (by decide) (by decide)
    have fa := fa_fri fa o1 o2 fc178 (by decide) (by decide)
    have hI := hJ
    have l3 := (gr_len g177 o3).trans l3
    have o1 := gr_ob g177 o1
    have o2 := gr_ob g177 o2
    have o3 := gr_ob g177 o3
    intro _
    intro x179 ex179
    refine ⟨sc_in (j := 1) hv hc hL ex179 (by omega) (by decide), ?_⟩
    intro x180 ex180
    intro x181 ex181
    refine ⟨sc_in (j := 2) hv hc hL ex181 (by omega) (by decide), ?_⟩
    intro x182 ex182
    intro x183 ex183
    refine ⟨sc_in (j := 3) hv hc hL ex183 (by omega) (by decide), ?_⟩
    intro x184 ex184
    intro x185 ex185
    refine ⟨sc_in (j := 4) hv hc hL ex185 (by omega) (by decide), ?_⟩
    intro x186 ex186
    intro x187 ex187
    refine ⟨sc_in (j := 5) hv hc hL ex187 (by omega) (by decide), ?_⟩
    intro x188 ex188
    intro x189 ex189
    refine ⟨sc_in (j := 6) hv hc hL ex189 (by omega) (by decide), ?_⟩
    intro x190 ex190
    refine ⟨fun c191 => ?_, fun c191 => ?_⟩
    · unfold P_L_law_553
      refine ⟨o2, ?_⟩
      refine ⟨by show _ ≤ 601024; omega, by show _ ≤ 7293034; omega, ?_⟩
      refine mn_X11_wet hI o2 (fun x193 S192 hJ g194 fc195 Kg194 nf2 => ?_)
      have tp := tt_fri tp o1 o2 Kg194 fc195 (by decide) (by decide) (by decide) (by decide)
      have fa := fa_fri fa o1 o2 fc195 (by decide) (by decide)
      have wh := wh_set nf1 fc195 (by decide) nf2
      have hI := hJ
      have l3 := (gr_len g194 o3).trans l3
      have o1 := gr_ob g194 o1
      have o2 := gr_ob g194 o2
      have o3 := gr_ob g194 o3
      intro _
      unfold P_L_law_2341
      intro x196 ex196
      have back := hb x196 ex196
      exact back _ _ _ hI o1 o2 o3 l3 tp fa wh (by omega) (by omega)
    · unfold P_L_law_553
      refine ⟨o2, ?_⟩
      refine ⟨by show _ ≤ 601024; omega, by show _ ≤ 7293034; omega, ?_⟩
      refine mn_X11_wet hI o2 (fun x198 S197 hJ g199 fc200 Kg199 nf2 => ?_)
      have tp := tt_fri tp o1 o2 Kg199 fc200 (by decide) (by decide) (by decide) (by decide)
      have fa := fa_fri fa o1 o2 fc200 (by decide) (by decide)
      have wh := wh_set nf1 fc200 (by decide) nf2
      have hI := hJ
      have l3 := (gr_len g199 o3).trans l3
      have o1 := gr_ob g199 o1
      have o2 := gr_ob g199 o2
      have o3 := gr_ob g199 o3
      intro _
      unfold P_L_law_2341
      intro x201 ex201
      have back := hb x201 ex201
      exact back _ _ _ hI o1 o2 o3 l3 tp fa wh (by omega) (by omega)
set_option maxHeartbeats 4000000 in
set_option maxRecDepth 20000 in
theorem a_L_law_560 {scL : Nat} {scx : Nat → Int32} {Q : Int32 → HS → Prop} {X23 : Nat → Nat → Nat → Int32 → Nat → Nat → HS → Prop} {v1 v2 v3 : Nat} {v4 : Int32} {kk nn : Nat} {S : HS} {c : Nat} (hL : scL ≤ 4096) (hc : 8 * c + 8 ≤ scL) (hb : ∀ x : Int32, x = v4 + (8 : Int32) → ∀ (kk nn : Nat) (T : HS), IV T → ob T v1 9 → ob T v2 11 → ob T v3 14 → hN T v3 = 1 → TT v1 v2 T → fI T v1 7 = fI T v2 13 → WH v1 v2 T → kk ≤ 200 + 35 * (c + 1) → nn ≤ 13000 + 8200 * (c + 1) → X23 v1 v2 v3 x kk nn T) (h : LI v1 v2 v3 v4 kk nn S c) : P_L_law_560 scL scx Q X23 v1 v2 v3 v4 kk nn S := by
  obtain ⟨hI, o1, o2, o3, l3, tp, fa, wh, hv, hk, hn⟩ := h
  unfold P_L_law_560
  intro x202 ex202
  refine ⟨sc_in (j := 1) hv hc hL ex202 (by omega) (by decide), ?_⟩
  intro x203 ex203
  intro x204 ex204
  refine ⟨sc_in (j := 2) hv hc hL ex204 (by omega) (by decide), ?_⟩
  intro x205 ex205
  intro x206 ex206
  refine ⟨sc_in (j := 3) hv hc hL ex206 (by omega) (by decide), ?_⟩
  intro x207 ex207
  intro x208 ex208
  refine ⟨sc_in (j := 4) hv hc hL ex208 (by omega) (by decide), ?_⟩
  intro x209 ex209
  intro x210 ex210
  refine ⟨sc_in (j := 5) hv hc hL ex210 (by omega) (by decide), ?_⟩
  intro x211 ex211
  intro x212 ex212
  refine ⟨sc_in (j := 6) hv hc hL ex212 (by omega) (by decide), ?_⟩
  intro x213 ex213
  refine ⟨fun c214 => ?_, fun c214 => ?_⟩
  · unfold P_L_law_606
    refine ⟨o1, ?_⟩
    refine ⟨by show _ ≤ 601024; omega, by show _ ≤ 7293034; omega, ?_⟩
    refine mn_X9_mean hI o1 (fun x216 S215 hJ g217 fc218 Kg217 nf1 => ?_)
    have tp := tt_fri tp o1 o2 Kg217 fc218 (by decide) (by decide) (by decide) (by decide)
    have fa := fa_fri fa o1 o2 fc218 (by decide) (by decide)
    have hI := hJ
    have l3 := (gr_len g217 o3).trans l3
    have o1 := gr_ob g217 o1
    have o2 := gr_ob g217 o2
    have o3 := gr_ob g217 o3
    intro _
    intro x219 ex219
    refine ⟨sc_in (j := 1) hv hc hL ex219 (by omega) (by decide), ?_⟩
    intro x220 ex220
    intro x221 ex221
    refine ⟨sc_in (j := 2) hv hc hL ex221 (by omega) (by decide), ?_⟩
    intro x222 ex222
    intro x223 ex223
    refine ⟨sc_in (j := 3) hv hc hL ex223 (by omega) (by decide), ?_⟩
    intro x224 ex224
    intro x225 ex225
    refine ⟨sc_in (j := 4) hv hc hL ex225 (by omega) (by decide), ?_⟩
    intro x226 ex226
    intro x227 ex227
    refine ⟨sc_in (j := 5) hv hc hL ex227 (by omega) (by decide), ?_⟩
    intro x228 ex228
    intro x229 ex229
    refine ⟨sc_in (j := 6) hv hc hL ex229 (by omega) (by decide), ?_⟩
    intro x230 ex230
    refine ⟨fun c231 => ?_, fun c231 => ?_⟩
    · unfold P_L_law_656
      refine ⟨o2, ?_⟩
      refine ⟨by show _ ≤ 601024; omega, by show _ ≤ 7293034; omega, ?_⟩
      refine mn_X11_mean hI o2 (fun x233 S232 hJ g234 fc235 Kg234 nf2 => ?_)
      have tp := tt_fri tp o1 o2 Kg234 fc235 (by decide) (by decide) (by decide) (by decide)
      have fa := fa_fri fa o1 o2 fc235 (by decide) (by decide)
      have wh := wh_set nf1 fc235 (by decide) nf2
      have hI := hJ
      have l3 := (gr_len g234 o3).trans l3
      have o1 := gr_ob g234 o1
      have o2 := gr_ob g234 o2
      have o3 := gr_ob g234 o3
      intro _
      unfold P_L_law_2341
      intro x236 ex236
      have back := hb x236 ex236
      exact back _ _ _ hI o1 o2 o3 l3 tp fa wh (by omega) (by omega)
    · unfold P_L_law_656
      refine ⟨o2, ?_⟩
      refine ⟨by show _ ≤ 601024; omega, by show _ ≤ 7293034; omega, ?_⟩
      refine mn_X11_mean hI o2 (fun x238 S237 hJ g239 fc240 Kg239 nf2 => ?_)
      have tp := tt_fri tp o1 o2 Kg239 fc240 (by decide) (by decide) (by decide) (by decide)
      have fa := fa_fri fa o1 o2 fc240 (by decide) (by decide)
      have wh := wh_set nf1 fc240 (by decide) nf2
      have hI := hJ
      have l3 := (gr_len g239 o3).trans l3
      have o1 := gr_ob g239 o1
      have o2 := gr_ob g239 o2
      have o3 := gr_ob g239 o3
      intro _
      unfold P_L_law_2341
      intro x241 ex241
      have back := hb x241 ex241
      exact back _ _ _ hI o1 o2 o3 l3 tp fa wh (by omega) (by omega)
  · unfold P_L_law_606
    refine ⟨o1, ?_⟩
    refine ⟨by show _ ≤ 601024; omega, by show _ ≤ 7293034; omega, ?_⟩
    refine mn_X9_mean hI o1 (fun x243 S242 hJ g244 fc245 Kg244 nf1 => ?_)
    have tp := tt_fri tp o1 o2 Kg244 fc245 (by decide) (by decide) (by decide) (by decide)
    have fa := fa_fri fa o1 o2 fc245 (by decide) (by decide)
    have hI := hJ
    have l3 := (gr_len g244 o3).trans l3
    have o1 := gr_ob g244 o1
    have o2 := gr_ob g244 o2
    have o3 := gr_ob g244 o3
    intro _
    intro x246 ex246
    refine ⟨sc_in (j := 1) hv hc hL ex246 (by omega) (by decide), ?_⟩
    intro x247 ex247
    intro x248 ex248
    refine ⟨sc_in (j := 2) hv hc hL ex248 (by omega) (by decide), ?_⟩
    intro x249 ex249
    intro x250 ex250
    refine ⟨sc_in (j := 3) hv hc hL ex250 (by omega) (by decide), ?_⟩
    intro x251 ex251
    intro x252 ex252
    refine ⟨sc_in (j := 4) hv hc hL ex252 (by omega) (by decide), ?_⟩
    intro x253 ex253
    intro x254 ex254
    refine ⟨sc_in (j := 5) hv hc hL ex254 (by omega) (by decide), ?_⟩
    intro x255 ex255
    intro x256 ex256
    refine ⟨sc_in (j := 6) hv hc hL ex256 (by omega) (by decide), ?_⟩
    intro x257 ex257
    refine ⟨fun c258 => ?_, fun c258 => ?_⟩
    · unfold P_L_law_656
      refine ⟨o2, ?_⟩
      refine ⟨by show _ ≤ 601024; omega, by show _ ≤ 7293034; omega, ?_⟩
      refine mn_X11_mean hI o2 (fun x260 S259 hJ g261 fc262 Kg261 nf2 => ?_)
      have tp := tt_fri tp o1 o2 Kg261 fc262 (by decide) (by decide) (by decide) (by decide)
      have fa := fa_fri fa o1 o2 fc262 (by decide) (by decide)
      have wh := wh_set nf1 fc262 (by decide) nf2
      have hI := hJ
      have l3 := (gr_len g261 o3).trans l3
      have o1 := gr_ob g261 o1
      have o2 := gr_ob g261 o2
      have o3 := gr_ob g261 o3
      intro _
      unfold P_L_law_2341
      intro x263 ex263
      have back := hb x263 ex263
      exact back _ _ _ hI o1 o2 o3 l3 tp fa wh (by omega) (by omega)
    · unfold P_L_law_656
      refine ⟨o2, ?_⟩
      refine ⟨by show _ ≤ 601024; omega, by show _ ≤ 7293034; omega, ?_⟩
      refine mn_X11_mean hI o2 (fun x265 S264 hJ g266 fc267 Kg266 nf2 => ?_)
      have tp := tt_fri tp o1 o2 Kg266 fc267 (by decide) (by decide) (by decide) (by decide)
      have fa := fa_fri fa o1 o2 fc267 (by decide) (by decide)
      have wh := wh_set nf1 fc267 (by decide) nf2
      have hI := hJ
      have l3 := (gr_len g266 o3).trans l3
      have o1 := gr_ob g266 o1
      have o2 := gr_ob g266 o2
      have o3 := gr_ob g266 o3
      intro _
      unfold P_L_law_2341
      intro x268 ex268
      have back := hb x268 ex268
      exact back _ _ _ hI o1 o2 o3 l3 tp fa wh (by omega) (by omega)
set_option maxHeartbeats 4000000 in
set_option maxRecDepth 20000 in
theorem a_L_law_663 {scL : Nat} {scx : Nat → Int32} {Q : Int32 → HS → Prop} {X23 : Nat → Nat → Nat → Int32 → Nat → Nat → HS → Prop} {v1 v2 v3 : Nat} {v4 : Int32} {kk nn : Nat} {S : HS} {c : Nat} (hL : scL ≤ 4096) (hc : 8 * c + 8 ≤ scL) (hb : ∀ x : Int32, x = v4 + (8 : Int32) → ∀ (kk nn : Nat) (T : HS), IV T → ob T v1 9 → ob T v2 11 → ob T v3 14 → hN T v3 = 1 → TT v1 v2 T → fI T v1 7 = fI T v2 13 → WH v1 v2 T → kk ≤ 200 + 35 * (c + 1) → nn ≤ 13000 + 8200 * (c + 1) → X23 v1 v2 v3 x kk nn T) (h : LI v1 v2 v3 v4 kk nn S c) : P_L_law_663 scL scx Q X23 v1 v2 v3 v4 kk nn S := by
  obtain ⟨hI, o1, o2, o3, l3, tp, fa, wh, hv, hk, hn⟩ := h
  unfold P_L_law_663
  intro x269 ex269
  refine ⟨sc_in (j := 1) hv hc hL ex269 (by omega) (by decide), ?_⟩
  intro x270 ex270
  intro x271 ex271
  refine ⟨sc_in (j := 2) hv hc hL ex271 (by omega) (by decide), ?_⟩
  intro x272 ex272
  intro x273 ex273
  refine ⟨sc_in (j := 3) hv hc hL ex273 (by omega) (by decide), ?_⟩
  intro x274 ex274
  refine ⟨o1, ?_⟩
  refine ⟨by show _ ≤ 601024; omega, by show _ ≤ 7293034; omega, ?_⟩
  refine mn_X9_minutes hI o1 (fun x276 S275 hJ g277 fc278 Kg277 nf1 => ?_)
  have tp := tt_fri tp o1 o2 Kg277 fc278 (by decide) (by decide) (by decide) (by decide)
  have fa := fa_fri fa o1 o2 fc278 (by decide) (by decide)
  have hI := hJ
  have l3 := (gr_len g277 o3).trans l3
  have o1 := gr_ob g277 o1
  have o2 := gr_ob g277 o2
  have o3 := gr_ob g277 o3
  intro _
  intro x279 ex279
  refine ⟨sc_in (j := 1) hv hc hL ex279 (by omega) (by decide), ?_⟩
  intro x280 ex280
  intro x281 ex281
  refine ⟨sc_in (j := 2) hv hc hL ex281 (by omega) (by decide), ?_⟩
  intro x282 ex282
  intro x283 ex283
  refine ⟨sc_in (j := 3) hv hc hL ex283 (by omega) (by decide), ?_⟩
  intro x284 ex284
  refine ⟨o2, ?_⟩
  refine ⟨by show _ ≤ 601024; omega, by show _ ≤ 7293034; omega, ?_⟩
  refine mn_X11_minutes hI o2 (fun x286 S285 hJ g287 fc288 Kg287 nf2 => ?_)
  have tp := tt_fri tp o1 o2 Kg287 fc288 (by decide) (by decide) (by decide) (by decide)
  have fa := fa_fri fa o1 o2 fc288 (by decide) (by decide)
  have wh := wh_set nf1 fc288 (by decide) nf2
  have hI := hJ
  have l3 := (gr_len g287 o3).trans l3
  have o1 := gr_ob g287 o1
  have o2 := gr_ob g287 o2
  have o3 := gr_ob g287 o3
  intro _
  unfold P_L_law_2341
  intro x289 ex289
  have back := hb x289 ex289
  exact back _ _ _ hI o1 o2 o3 l3 tp fa wh (by omega) (by omega)
set_option maxHeartbeats 4000000 in
set_option maxRecDepth 20000 in
theorem a_L_law_712 {scL : Nat} {scx : Nat → Int32} {Q : Int32 → HS → Prop} {X23 : Nat → Nat → Nat → Int32 → Nat → Nat → HS → Prop} {v1 v2 v3 : Nat} {v4 : Int32} {kk nn : Nat} {S : HS} {c : Nat} (hL : scL ≤ 4096) (hc : 8 * c + 8 ≤ scL) (hb : ∀ x : Int32, x = v4 + (8 : Int32) → ∀ (kk nn : Nat) (T : HS), IV T → ob T v1 9 → ob T v2 11 → ob T v3 14 → hN T v3 = 1 → TT v1 v2 T → fI T v1 7 = fI T v2 13 → WH v1 v2 T → kk ≤ 200 + 35 * (c + 1) → nn ≤ 13000 + 8200 * (c + 1) → X23 v1 v2 v3 x kk nn T) (h : LI v1 v2 v3 v4 kk nn S c) : P_L_law_712 scL scx Q X23 v1 v2 v3 v4 kk nn S := by
  obtain ⟨hI, o1, o2, o3, l3, tp, fa, wh, hv, hk, hn⟩ := h
  unfold P_L_law_712
  intro x290 ex290
  refine ⟨sc_in (j := 1) hv hc hL ex290 (by omega) (by decide), ?_⟩
  intro x291 ex291
  intro x292 ex292
  refine ⟨sc_in (j := 2) hv hc hL ex292 (by omega) (by decide), ?_⟩
  intro x293 ex293
  intro x294 ex294
  refine ⟨sc_in (j := 3) hv hc hL ex294 (by omega) (by decide), ?_⟩
  intro x295 ex295
  refine ⟨o1, ?_⟩
  refine ⟨by show _ ≤ 601024; omega, by show _ ≤ 7293034; omega, ?_⟩
  refine mn_X9_air hI o1 (fun x297 S296 hJ g298 fc299 Kg298 nf1 => ?_)
  have tp := tt_fri tp o1 o2 Kg298 fc299 (by decide) (by decide) (by decide) (by decide)
  have fa := fa_fri fa o1 o2 fc299 (by decide) (by decide)
  have hI := hJ
  have l3 := (gr_len g298 o3).trans l3
  have o1 := gr_ob g298 o1
  have o2 := gr_ob g298 o2
  have o3 := gr_ob g298 o3
  intro _
  intro x300 ex300
  refine ⟨sc_in (j := 1) hv hc hL ex300 (by omega) (by decide), ?_⟩
  intro x301 ex301
  intro x302 ex302
  refine ⟨sc_in (j := 2) hv hc hL ex302 (by omega) (by decide), ?_⟩
  intro x303 ex303
  intro x304 ex304
  refine ⟨sc_in (j := 3) hv hc hL ex304 (by omega) (by decide), ?_⟩
  intro x305 ex305
  refine ⟨o2, ?_⟩
  refine ⟨by show _ ≤ 601024; omega, by show _ ≤ 7293034; omega, ?_⟩
  refine mn_X11_air hI o2 (fun x307 S306 hJ g308 fc309 Kg308 nf2 => ?_)
  have tp := tt_fri tp o1 o2 Kg308 fc309 (by decide) (by decide) (by decide) (by decide)
  have fa := fa_fri fa o1 o2 fc309 (by decide) (by decide)
  have wh := wh_set nf1 fc309 (by decide) nf2
  have hI := hJ
  have l3 := (gr_len g308 o3).trans l3
  have o1 := gr_ob g308 o1
  have o2 := gr_ob g308 o2
  have o3 := gr_ob g308 o3
  intro _
  unfold P_L_law_2341
  intro x310 ex310
  have back := hb x310 ex310
  exact back _ _ _ hI o1 o2 o3 l3 tp fa wh (by omega) (by omega)
set_option maxHeartbeats 4000000 in
set_option maxRecDepth 20000 in
theorem a_L_law_761 {scL : Nat} {scx : Nat → Int32} {Q : Int32 → HS → Prop} {X23 : Nat → Nat → Nat → Int32 → Nat → Nat → HS → Prop} {v1 v2 v3 : Nat} {v4 : Int32} {kk nn : Nat} {S : HS} {c : Nat} (hL : scL ≤ 4096) (hc : 8 * c + 8 ≤ scL) (hb : ∀ x : Int32, x = v4 + (8 : Int32) → ∀ (kk nn : Nat) (T : HS), IV T → ob T v1 9 → ob T v2 11 → ob T v3 14 → hN T v3 = 1 → TT v1 v2 T → fI T v1 7 = fI T v2 13 → WH v1 v2 T → kk ≤ 200 + 35 * (c + 1) → nn ≤ 13000 + 8200 * (c + 1) → X23 v1 v2 v3 x kk nn T) (h : LI v1 v2 v3 v4 kk nn S c) : P_L_law_761 scL scx Q X23 v1 v2 v3 v4 kk nn S := by
  obtain ⟨hI, o1, o2, o3, l3, tp, fa, wh, hv, hk, hn⟩ := h
  unfold P_L_law_761
  intro x311 ex311
  refine ⟨sc_in (j := 1) hv hc hL ex311 (by omega) (by decide), ?_⟩
  intro x312 ex312
  intro x313 ex313
  refine ⟨sc_in (j := 2) hv hc hL ex313 (by omega) (by decide), ?_⟩
  intro x314 ex314
  intro x315 ex315
  refine ⟨sc_in (j := 3) hv hc hL ex315 (by omega) (by decide), ?_⟩
  intro x316 ex316
  intro x317 ex317
  refine ⟨sc_in (j := 4) hv hc hL ex317 (by omega) (by decide), ?_⟩
  intro x318 ex318
  intro x319 ex319
  refine ⟨sc_in (j := 5) hv hc hL ex319 (by omega) (by decide), ?_⟩
  intro x320 ex320
  refine ⟨o1, ?_⟩
  refine ⟨by show _ ≤ 601024; omega, by show _ ≤ 7293034; omega, ?_⟩
  refine mn_X9_held hI o1 (fun x322 S321 hJ g323 fc324 Kg323 nf1 => ?_)
  have tp := tt_fri tp o1 o2 Kg323 fc324 (by decide) (by decide) (by decide) (by decide)
  have fa := fa_fri fa o1 o2 fc324 (by decide) (by decide)
  have hI := hJ
  have l3 := (gr_len g323 o3).trans l3
  have o1 := gr_ob g323 o1
  have o2 := gr_ob g323 o2
  have o3 := gr_ob g323 o3
  intro _
  intro x325 ex325
  refine ⟨sc_in (j := 1) hv hc hL ex325 (by omega) (by decide), ?_⟩
  intro x326 ex326
  intro x327 ex327
  refine ⟨sc_in (j := 2) hv hc hL ex327 (by omega) (by decide), ?_⟩
  intro x328 ex328
  intro x329 ex329
  refine ⟨sc_in (j := 3) hv hc hL ex329 (by omega) (by decide), ?_⟩
  intro x330 ex330
  intro x331 ex331
  refine ⟨sc_in (j := 4) hv hc hL ex331 (by omega) (by decide), ?_⟩
  intro x332 ex332
  intro x333 ex333
  refine ⟨sc_in (j := 5) hv hc hL ex333 (by omega) (by decide), ?_⟩
  intro x334 ex334
  refine ⟨o2, ?_⟩
  refine ⟨by show _ ≤ 601024; omega, by show _ ≤ 7293034; omega, ?_⟩
  refine mn_X11_held hI o2 (fun x336 S335 hJ g337 fc338 Kg337 nf2 => ?_)
  have tp := tt_fri tp o1 o2 Kg337 fc338 (by decide) (by decide) (by decide) (by decide)
  have fa := fa_fri fa o1 o2 fc338 (by decide) (by decide)
  have wh := wh_set nf1 fc338 (by decide) nf2
  have hI := hJ
  have l3 := (gr_len g337 o3).trans l3
  have o1 := gr_ob g337 o1
  have o2 := gr_ob g337 o2
  have o3 := gr_ob g337 o3
  intro _
  unfold P_L_law_2341
  intro x339 ex339
  have back := hb x339 ex339
  exact back _ _ _ hI o1 o2 o3 l3 tp fa wh (by omega) (by omega)
set_option maxHeartbeats 4000000 in
set_option maxRecDepth 20000 in
theorem a_L_law_834 {scL : Nat} {scx : Nat → Int32} {Q : Int32 → HS → Prop} {X23 : Nat → Nat → Nat → Int32 → Nat → Nat → HS → Prop} {v1 v2 v3 : Nat} {v4 : Int32} {kk nn : Nat} {S : HS} {c : Nat} (hL : scL ≤ 4096) (hc : 8 * c + 8 ≤ scL) (hb : ∀ x : Int32, x = v4 + (8 : Int32) → ∀ (kk nn : Nat) (T : HS), IV T → ob T v1 9 → ob T v2 11 → ob T v3 14 → hN T v3 = 1 → TT v1 v2 T → fI T v1 7 = fI T v2 13 → WH v1 v2 T → kk ≤ 200 + 35 * (c + 1) → nn ≤ 13000 + 8200 * (c + 1) → X23 v1 v2 v3 x kk nn T) (h : LI v1 v2 v3 v4 kk nn S c) : P_L_law_834 scL scx Q X23 v1 v2 v3 v4 kk nn S := by
  obtain ⟨hI, o1, o2, o3, l3, tp, fa, wh, hv, hk, hn⟩ := h
  unfold P_L_law_834
  intro x340 ex340
  refine ⟨sc_in (j := 1) hv hc hL ex340 (by omega) (by decide), ?_⟩
  intro x341 ex341
  intro x342 ex342
  refine ⟨sc_in (j := 2) hv hc hL ex342 (by omega) (by decide), ?_⟩
  intro x343 ex343
  intro x344 ex344
  refine ⟨sc_in (j := 3) hv hc hL ex344 (by omega) (by decide), ?_⟩
  intro x345 ex345
  intro x346 ex346
  refine ⟨sc_in (j := 4) hv hc hL ex346 (by omega) (by decide), ?_⟩
  intro x347 ex347
  refine ⟨o1, ?_⟩
  refine ⟨by show _ ≤ 601024; omega, by show _ ≤ 7293034; omega, ?_⟩
  refine mn_X9_best hI o1 (fun x349 S348 hJ g350 fc351 Kg350 nf1 => ?_)
  have tp := tt_fri tp o1 o2 Kg350 fc351 (by decide) (by decide) (by decide) (by decide)
  have fa := fa_fri fa o1 o2 fc351 (by decide) (by decide)
  have hI := hJ
  have l3 := (gr_len g350 o3).trans l3
  have o1 := gr_ob g350 o1
  have o2 := gr_ob g350 o2
  have o3 := gr_ob g350 o3
  intro _
  intro x352 ex352
  refine ⟨sc_in (j := 1) hv hc hL ex352 (by omega) (by decide), ?_⟩
  intro x353 ex353
  intro x354 ex354
  refine ⟨sc_in (j := 2) hv hc hL ex354 (by omega) (by decide), ?_⟩
  intro x355 ex355
  intro x356 ex356
  refine ⟨sc_in (j := 3) hv hc hL ex356 (by omega) (by decide), ?_⟩
  intro x357 ex357
  intro x358 ex358
  refine ⟨sc_in (j := 4) hv hc hL ex358 (by omega) (by decide), ?_⟩
  intro x359 ex359
  refine ⟨o2, ?_⟩
  refine ⟨by show _ ≤ 601024; omega, by show _ ≤ 7293034; omega, ?_⟩
  refine mn_X11_best hI o2 (fun x361 S360 hJ g362 fc363 Kg362 nf2 => ?_)
  have tp := tt_fri tp o1 o2 Kg362 fc363 (by decide) (by decide) (by decide) (by decide)
  have fa := fa_fri fa o1 o2 fc363 (by decide) (by decide)
  have wh := wh_set nf1 fc363 (by decide) nf2
  have hI := hJ
  have l3 := (gr_len g362 o3).trans l3
  have o1 := gr_ob g362 o1
  have o2 := gr_ob g362 o2
  have o3 := gr_ob g362 o3
  intro _
  unfold P_L_law_2341
  intro x364 ex364
  have back := hb x364 ex364
  exact back _ _ _ hI o1 o2 o3 l3 tp fa wh (by omega) (by omega)
set_option maxHeartbeats 4000000 in
set_option maxRecDepth 20000 in
theorem a_L_law_895 {scL : Nat} {scx : Nat → Int32} {Q : Int32 → HS → Prop} {X23 : Nat → Nat → Nat → Int32 → Nat → Nat → HS → Prop} {v1 v2 v3 : Nat} {v4 : Int32} {kk nn : Nat} {S : HS} {c : Nat} (hL : scL ≤ 4096) (hc : 8 * c + 8 ≤ scL) (hb : ∀ x : Int32, x = v4 + (8 : Int32) → ∀ (kk nn : Nat) (T : HS), IV T → ob T v1 9 → ob T v2 11 → ob T v3 14 → hN T v3 = 1 → TT v1 v2 T → fI T v1 7 = fI T v2 13 → WH v1 v2 T → kk ≤ 200 + 35 * (c + 1) → nn ≤ 13000 + 8200 * (c + 1) → X23 v1 v2 v3 x kk nn T) (h : LI v1 v2 v3 v4 kk nn S c) : P_L_law_895 scL scx Q X23 v1 v2 v3 v4 kk nn S := by
  obtain ⟨hI, o1, o2, o3, l3, tp, fa, wh, hv, hk, hn⟩ := h
  unfold P_L_law_895
  intro x365 ex365
  refine ⟨sc_in (j := 1) hv hc hL ex365 (by omega) (by decide), ?_⟩
  intro x366 ex366
  intro x367 ex367
  refine ⟨sc_in (j := 2) hv hc hL ex367 (by omega) (by decide), ?_⟩
  intro x368 ex368
  intro x369 ex369
  refine ⟨sc_in (j := 3) hv hc hL ex369 (by omega) (by decide), ?_⟩
  intro x370 ex370
  intro x371 ex371
  refine ⟨sc_in (j := 4) hv hc hL ex371 (by omega) (by decide), ?_⟩
  intro x372 ex372
  intro x373 ex373
  refine ⟨sc_in (j := 5) hv hc hL ex373 (by omega) (by decide), ?_⟩
  intro x374 ex374
  refine ⟨fun c375 => ?_, fun c375 => ?_⟩
  · unfold P_L_law_934
    refine ⟨o1, ?_⟩
    refine ⟨by show _ ≤ 601024; omega, by show _ ≤ 7293034; omega, ?_⟩
    refine mn_X9_saves hI o1 (fun x377 S376 hJ g378 fc379 Kg378 nf1 => ?_)
    have tp := tt_fri tp o1 o2 Kg378 fc379 (by decide) (by decide) (by decide) (by decide)
    have fa := fa_fri fa o1 o2 fc379 (by decide) (by decide)
    have hI := hJ
    have l3 := (gr_len g378 o3).trans l3
    have o1 := gr_ob g378 o1
    have o2 := gr_ob g378 o2
    have o3 := gr_ob g378 o3
    intro _
    intro x380 ex380
    refine ⟨sc_in (j := 1) hv hc hL ex380 (by omega) (by decide), ?_⟩
    intro x381 ex381
    intro x382 ex382
    refine ⟨sc_in (j := 2) hv hc hL ex382 (by omega) (by decide), ?_⟩
    intro x383 ex383
    intro x384 ex384
    refine ⟨sc_in (j := 3) hv hc hL ex384 (by omega) (by decide), ?_⟩
    intro x385 ex385
    intro x386 ex386
    refine ⟨sc_in (j := 4) hv hc hL ex386 (by omega) (by decide), ?_⟩
    intro x387 ex387
    intro x388 ex388
    refine ⟨sc_in (j := 5) hv hc hL ex388 (by omega) (by decide), ?_⟩
    intro x389 ex389
    refine ⟨fun c390 => ?_, fun c390 => ?_⟩
    · unfold P_L_law_977
      refine ⟨o2, ?_⟩
      refine ⟨by show _ ≤ 601024; omega, by show _ ≤ 7293034; omega, ?_⟩
      refine mn_X11_saves hI o2 (fun x392 S391 hJ g393 fc394 Kg393 nf2 => ?_)
      have tp := tt_fri tp o1 o2 Kg393 fc394 (by decide) (by decide) (by decide) (by decide)
      have fa := fa_fri fa o1 o2 fc394 (by decide) (by decide)
      have wh := wh_set nf1 fc394 (by decide) nf2
      have hI := hJ
      have l3 := (gr_len g393 o3).trans l3
      have o1 := gr_ob g393 o1
      have o2 := gr_ob g393 o2
      have o3 := gr_ob g393 o3
      intro _
      unfold P_L_law_2341
      intro x395 ex395
      have back := hb x395 ex395
      exact back _ _ _ hI o1 o2 o3 l3 tp fa wh (by omega) (by omega)
    · unfold P_L_law_977
      refine ⟨o2, ?_⟩
      refine ⟨by show _ ≤ 601024; omega, by show _ ≤ 7293034; omega, ?_⟩
      refine mn_X11_saves hI o2 (fun x397 S396 hJ g398 fc399 Kg398 nf2 => ?_)
      have tp := tt_fri tp o1 o2 Kg398 fc399 (by decide) (by decide) (by decide) (by decide)
      have fa := fa_fri fa o1 o2 fc399 (by decide) (by decide)
      have wh := wh_set nf1 fc399 (by decide) nf2
      have hI := hJ
      have l3 := (gr_len g398 o3).trans l3
      have o1 := gr_ob g398 o1
      have o2 := gr_ob g398 o2
      have o3 := gr_ob g398 o3
      intro _
      unfold P_L_law_2341
      intro x400 ex400
      have back := hb x400 ex400
      exact back _ _ _ hI o1 o2 o3 l3 tp fa wh (by omega) (by omega)
  · unfold P_L_law_934
    refine ⟨o1, ?_⟩
    refine ⟨by show _ ≤ 601024; omega, by show _ ≤ 7293034; omega, ?_⟩
    refine mn_X9_saves hI o1 (fun x402 S401 hJ g403 fc404 Kg403 nf1 => ?_)
    have tp := tt_fri tp o1 o2 Kg403 fc404 (by decide) (by decide) (by decide) (by decide)
    have fa := fa_fri fa o1 o2 fc404 (by decide) (by decide)
    have hI := hJ
    have l3 := (gr_len g403 o3).trans l3
    have o1 := gr_ob g403 o1
    have o2 := gr_ob g403 o2
    have o3 := gr_ob g403 o3
    intro _
    intro x405 ex405
    refine ⟨sc_in (j := 1) hv hc hL ex405 (by omega) (by decide), ?_⟩
    intro x406 ex406
    intro x407 ex407
    refine ⟨sc_in (j := 2) hv hc hL ex407 (by omega) (by decide), ?_⟩
    intro x408 ex408
    intro x409 ex409
    refine ⟨sc_in (j := 3) hv hc hL ex409 (by omega) (by decide), ?_⟩
    intro x410 ex410
    intro x411 ex411
    refine ⟨sc_in (j := 4) hv hc hL ex411 (by omega) (by decide), ?_⟩
    intro x412 ex412
    intro x413 ex413
    refine ⟨sc_in (j := 5) hv hc hL ex413 (by omega) (by decide), ?_⟩
    intro x414 ex414
    refine ⟨fun c415 => ?_, fun c415 => ?_⟩
    · unfold P_L_law_977
      refine ⟨o2, ?_⟩
      refine ⟨by show _ ≤ 601024; omega, by show _ ≤ 7293034; omega, ?_⟩
      refine mn_X11_saves hI o2 (fun x417 S416 hJ g418 fc419 Kg418 nf2 => ?_)
      have tp := tt_fri tp o1 o2 Kg418 fc419 (by decide) (by decide) (by decide) (by decide)
      have fa := fa_fri fa o1 o2 fc419 (by decide) (by decide)
      have wh := wh_set nf1 fc419 (by decide) nf2
      have hI := hJ
      have l3 := (gr_len g418 o3).trans l3
      have o1 := gr_ob g418 o1
      have o2 := gr_ob g418 o2
      have o3 := gr_ob g418 o3
      intro _
      unfold P_L_law_2341
      intro x420 ex420
      have back := hb x420 ex420
      exact back _ _ _ hI o1 o2 o3 l3 tp fa wh (by omega) (by omega)
    · unfold P_L_law_977
      refine ⟨o2, ?_⟩
      refine ⟨by show _ ≤ 601024; omega, by show _ ≤ 7293034; omega, ?_⟩
      refine mn_X11_saves hI o2 (fun x422 S421 hJ g423 fc424 Kg423 nf2 => ?_)
      have tp := tt_fri tp o1 o2 Kg423 fc424 (by decide) (by decide) (by decide) (by decide)
      have fa := fa_fri fa o1 o2 fc424 (by decide) (by decide)
      have wh := wh_set nf1 fc424 (by decide) nf2
      have hI := hJ
      have l3 := (gr_len g423 o3).trans l3
      have o1 := gr_ob g423 o1
      have o2 := gr_ob g423 o2
      have o3 := gr_ob g423 o3
      intro _
      unfold P_L_law_2341
      intro x425 ex425
      have back := hb x425 ex425
      exact back _ _ _ hI o1 o2 o3 l3 tp fa wh (by omega) (by omega)
set_option maxHeartbeats 4000000 in
set_option maxRecDepth 20000 in
theorem a_L_law_984 {scL : Nat} {scx : Nat → Int32} {Q : Int32 → HS → Prop} {X23 : Nat → Nat → Nat → Int32 → Nat → Nat → HS → Prop} {v1 v2 v3 : Nat} {v4 : Int32} {kk nn : Nat} {S : HS} {c : Nat} (hL : scL ≤ 4096) (hc : 8 * c + 8 ≤ scL) (hb : ∀ x : Int32, x = v4 + (8 : Int32) → ∀ (kk nn : Nat) (T : HS), IV T → ob T v1 9 → ob T v2 11 → ob T v3 14 → hN T v3 = 1 → TT v1 v2 T → fI T v1 7 = fI T v2 13 → WH v1 v2 T → kk ≤ 200 + 35 * (c + 1) → nn ≤ 13000 + 8200 * (c + 1) → X23 v1 v2 v3 x kk nn T) (h : LI v1 v2 v3 v4 kk nn S c) : P_L_law_984 scL scx Q X23 v1 v2 v3 v4 kk nn S := by
  obtain ⟨hI, o1, o2, o3, l3, tp, fa, wh, hv, hk, hn⟩ := h
  unfold P_L_law_984
  intro x426 ex426
  refine ⟨sc_in (j := 1) hv hc hL ex426 (by omega) (by decide), ?_⟩
  intro x427 ex427
  intro x428 ex428
  refine ⟨sc_in (j := 2) hv hc hL ex428 (by omega) (by decide), ?_⟩
  intro x429 ex429
  intro x430 ex430
  refine ⟨sc_in (j := 3) hv hc hL ex430 (by omega) (by decide), ?_⟩
  intro x431 ex431
  intro x432 ex432
  refine ⟨sc_in (j := 4) hv hc hL ex432 (by omega) (by decide), ?_⟩
  intro x433 ex433
  refine ⟨o1, ?_⟩
  refine ⟨by show _ ≤ 601024; omega, by show _ ≤ 7293034; omega, ?_⟩
  refine mn_X9_worst hI o1 (fun x435 S434 hJ g436 fc437 Kg436 nf1 => ?_)
  have tp := tt_fri tp o1 o2 Kg436 fc437 (by decide) (by decide) (by decide) (by decide)
  have fa := fa_fri fa o1 o2 fc437 (by decide) (by decide)
  have hI := hJ
  have l3 := (gr_len g436 o3).trans l3
  have o1 := gr_ob g436 o1
  have o2 := gr_ob g436 o2
  have o3 := gr_ob g436 o3
  intro _
  intro x438 ex438
  refine ⟨sc_in (j := 1) hv hc hL ex438 (by omega) (by decide), ?_⟩
  intro x439 ex439
  intro x440 ex440
  refine ⟨sc_in (j := 2) hv hc hL ex440 (by omega) (by decide), ?_⟩
  intro x441 ex441
  intro x442 ex442
  refine ⟨sc_in (j := 3) hv hc hL ex442 (by omega) (by decide), ?_⟩
  intro x443 ex443
  intro x444 ex444
  refine ⟨sc_in (j := 4) hv hc hL ex444 (by omega) (by decide), ?_⟩
  intro x445 ex445
  refine ⟨o2, ?_⟩
  refine ⟨by show _ ≤ 601024; omega, by show _ ≤ 7293034; omega, ?_⟩
  refine mn_X11_worst hI o2 (fun x447 S446 hJ g448 fc449 Kg448 nf2 => ?_)
  have tp := tt_fri tp o1 o2 Kg448 fc449 (by decide) (by decide) (by decide) (by decide)
  have fa := fa_fri fa o1 o2 fc449 (by decide) (by decide)
  have wh := wh_set nf1 fc449 (by decide) nf2
  have hI := hJ
  have l3 := (gr_len g448 o3).trans l3
  have o1 := gr_ob g448 o1
  have o2 := gr_ob g448 o2
  have o3 := gr_ob g448 o3
  intro _
  unfold P_L_law_2341
  intro x450 ex450
  have back := hb x450 ex450
  exact back _ _ _ hI o1 o2 o3 l3 tp fa wh (by omega) (by omega)
set_option maxHeartbeats 4000000 in
set_option maxRecDepth 20000 in
theorem a_L_law_1045 {scL : Nat} {scx : Nat → Int32} {Q : Int32 → HS → Prop} {X23 : Nat → Nat → Nat → Int32 → Nat → Nat → HS → Prop} {v1 v2 v3 : Nat} {v4 : Int32} {kk nn : Nat} {S : HS} {c : Nat} (hL : scL ≤ 4096) (hc : 8 * c + 8 ≤ scL) (hb : ∀ x : Int32, x = v4 + (8 : Int32) → ∀ (kk nn : Nat) (T : HS), IV T → ob T v1 9 → ob T v2 11 → ob T v3 14 → hN T v3 = 1 → TT v1 v2 T → fI T v1 7 = fI T v2 13 → WH v1 v2 T → kk ≤ 200 + 35 * (c + 1) → nn ≤ 13000 + 8200 * (c + 1) → X23 v1 v2 v3 x kk nn T) (h : LI v1 v2 v3 v4 kk nn S c) : P_L_law_1045 scL scx Q X23 v1 v2 v3 v4 kk nn S := by
  obtain ⟨hI, o1, o2, o3, l3, tp, fa, wh, hv, hk, hn⟩ := h
  unfold P_L_law_1045
  intro x451 ex451
  refine ⟨sc_in (j := 1) hv hc hL ex451 (by omega) (by decide), ?_⟩
  intro x452 ex452
  intro x453 ex453
  refine ⟨sc_in (j := 2) hv hc hL ex453 (by omega) (by decide), ?_⟩
  intro x454 ex454
  intro x455 ex455
  refine ⟨sc_in (j := 3) hv hc hL ex455 (by omega) (by decide), ?_⟩
  intro x456 ex456
  intro x457 ex457
  refine ⟨sc_in (j := 4) hv hc hL ex457 (by omega) (by decide), ?_⟩
  intro x458 ex458
  refine ⟨o1, ?_⟩
  refine ⟨by show _ ≤ 601024; omega, by show _ ≤ 7293034; omega, ?_⟩
  refine mn_X9_even hI o1 (fun x460 S459 hJ g461 fc462 Kg461 nf1 => ?_)
  have tp := tt_fri tp o1 o2 Kg461 fc462 (by decide) (by decide) (by decide) (by decide)
  have fa := fa_fri fa o1 o2 fc462 (by decide) (by decide)
  have hI := hJ
  have l3 := (gr_len g461 o3).trans l3
  have o1 := gr_ob g461 o1
  have o2 := gr_ob g461 o2
  have o3 := gr_ob g461 o3
  intro _
  intro x463 ex463
  refine ⟨sc_in (j := 1) hv hc hL ex463 (by omega) (by decide), ?_⟩
  intro x464 ex464
  intro x465 ex465
  refine ⟨sc_in (j := 2) hv hc hL ex465 (by omega) (by decide), ?_⟩
  intro x466 ex466
  intro x467 ex467
  refine ⟨sc_in (j := 3) hv hc hL ex467 (by omega) (by decide), ?_⟩
  intro x468 ex468
  intro x469 ex469
  refine ⟨sc_in (j := 4) hv hc hL ex469 (by omega) (by decide), ?_⟩
  intro x470 ex470
  refine ⟨o2, ?_⟩
  refine ⟨by show _ ≤ 601024; omega, by show _ ≤ 7293034; omega, ?_⟩
  refine mn_X11_even hI o2 (fun x472 S471 hJ g473 fc474 Kg473 nf2 => ?_)
  have tp := tt_fri tp o1 o2 Kg473 fc474 (by decide) (by decide) (by decide) (by decide)
  have fa := fa_fri fa o1 o2 fc474 (by decide) (by decide)
  have wh := wh_set nf1 fc474 (by decide) nf2
  have hI := hJ
  have l3 := (gr_len g473 o3).trans l3
  have o1 := gr_ob g473 o1
  have o2 := gr_ob g473 o2
  have o3 := gr_ob g473 o3
  intro _
  unfold P_L_law_2341
  intro x475 ex475
  have back := hb x475 ex475
  exact back _ _ _ hI o1 o2 o3 l3 tp fa wh (by omega) (by omega)
set_option maxHeartbeats 4000000 in
set_option maxRecDepth 20000 in
theorem a_L_law_1106 {scL : Nat} {scx : Nat → Int32} {Q : Int32 → HS → Prop} {X23 : Nat → Nat → Nat → Int32 → Nat → Nat → HS → Prop} {v1 v2 v3 : Nat} {v4 : Int32} {kk nn : Nat} {S : HS} {c : Nat} (hL : scL ≤ 4096) (hc : 8 * c + 8 ≤ scL) (hb : ∀ x : Int32, x = v4 + (8 : Int32) → ∀ (kk nn : Nat) (T : HS), IV T → ob T v1 9 → ob T v2 11 → ob T v3 14 → hN T v3 = 1 → TT v1 v2 T → fI T v1 7 = fI T v2 13 → WH v1 v2 T → kk ≤ 200 + 35 * (c + 1) → nn ≤ 13000 + 8200 * (c + 1) → X23 v1 v2 v3 x kk nn T) (h : LI v1 v2 v3 v4 kk nn S c) : P_L_law_1106 scL scx Q X23 v1 v2 v3 v4 kk nn S := by
  obtain ⟨hI, o1, o2, o3, l3, tp, fa, wh, hv, hk, hn⟩ := h
  unfold P_L_law_1106
  intro x476 ex476
  refine ⟨sc_in (j := 1) hv hc hL ex476 (by omega) (by decide), ?_⟩
  intro x477 ex477
  intro x478 ex478
  refine ⟨sc_in (j := 2) hv hc hL ex478 (by omega) (by decide), ?_⟩
  intro x479 ex479
  intro x480 ex480
  refine ⟨sc_in (j := 3) hv hc hL ex480 (by omega) (by decide), ?_⟩
  intro x481 ex481
  intro x482 ex482
  refine ⟨sc_in (j := 4) hv hc hL ex482 (by omega) (by decide), ?_⟩
  intro x483 ex483
  refine ⟨fun c484 => ?_, fun c484 => ?_⟩
  · unfold P_L_law_1139
    refine ⟨o1, ?_⟩
    refine ⟨by show _ ≤ 601024; omega, by show _ ≤ 7293034; omega, ?_⟩
    refine mn_X9_round hI o1 (fun x486 S485 hJ g487 fc488 Kg487 nf1 => ?_)
    have tp := tt_fri tp o1 o2 Kg487 fc488 (by decide) (by decide) (by decide) (by decide)
    have fa := fa_fri fa o1 o2 fc488 (by decide) (by decide)
    have hI := hJ
    have l3 := (gr_len g487 o3).trans l3
    have o1 := gr_ob g487 o1
    have o2 := gr_ob g487 o2
    have o3 := gr_ob g487 o3
    intro _
    intro x489 ex489
    refine ⟨sc_in (j := 1) hv hc hL ex489 (by omega) (by decide), ?_⟩
    intro x490 ex490
    intro x491 ex491
    refine ⟨sc_in (j := 2) hv hc hL ex491 (by omega) (by decide), ?_⟩
    intro x492 ex492
    intro x493 ex493
    refine ⟨sc_in (j := 3) hv hc hL ex493 (by omega) (by decide), ?_⟩
    intro x494 ex494
    intro x495 ex495
    refine ⟨sc_in (j := 4) hv hc hL ex495 (by omega) (by decide), ?_⟩
    intro x496 ex496
    refine ⟨fun c497 => ?_, fun c497 => ?_⟩
    · unfold P_L_law_1176
      refine ⟨o2, ?_⟩
      refine ⟨by show _ ≤ 601024; omega, by show _ ≤ 7293034; omega, ?_⟩
      refine mn_X11_round hI o2 (fun x499 S498 hJ g500 fc501 Kg500 nf2 => ?_)
      have tp := tt_fri tp o1 o2 Kg500 fc501 (by decide) (by decide) (by decide) (by decide)
      have fa := fa_fri fa o1 o2 fc501 (by decide) (by decide)
      have wh := wh_set nf1 fc501 (by decide) nf2
      have hI := hJ
      have l3 := (gr_len g500 o3).trans l3
      have o1 := gr_ob g500 o1
      have o2 := gr_ob g500 o2
      have o3 := gr_ob g500 o3
      intro _
      unfold P_L_law_2341
      intro x502 ex502
      have back := hb x502 ex502
      exact back _ _ _ hI o1 o2 o3 l3 tp fa wh (by omega) (by omega)
    · unfold P_L_law_1176
      refine ⟨o2, ?_⟩
      refine ⟨by show _ ≤ 601024; omega, by show _ ≤ 7293034; omega, ?_⟩
      refine mn_X11_round hI o2 (fun x504 S503 hJ g505 fc506 Kg505 nf2 => ?_)
      have tp := tt_fri tp o1 o2 Kg505 fc506 (by decide) (by decide) (by decide) (by decide)
      have fa := fa_fri fa o1 o2 fc506 (by decide) (by decide)
      have wh := wh_set nf1 fc506 (by decide) nf2
      have hI := hJ
      have l3 := (gr_len g505 o3).trans l3
      have o1 := gr_ob g505 o1
      have o2 := gr_ob g505 o2
      have o3 := gr_ob g505 o3
      intro _
      unfold P_L_law_2341
      intro x507 ex507
      have back := hb x507 ex507
      exact back _ _ _ hI o1 o2 o3 l3 tp fa wh (by omega) (by omega)
  · unfold P_L_law_1139
    refine ⟨o1, ?_⟩
    refine ⟨by show _ ≤ 601024; omega, by show _ ≤ 7293034; omega, ?_⟩
    refine mn_X9_round hI o1 (fun x509 S508 hJ g510 fc511 Kg510 nf1 => ?_)
    have tp := tt_fri tp o1 o2 Kg510 fc511 (by decide) (by decide) (by decide) (by decide)
    have fa := fa_fri fa o1 o2 fc511 (by decide) (by decide)
    have hI := hJ
    have l3 := (gr_len g510 o3).trans l3
    have o1 := gr_ob g510 o1
    have o2 := gr_ob g510 o2
    have o3 := gr_ob g510 o3
    intro _
    intro x512 ex512
    refine ⟨sc_in (j := 1) hv hc hL ex512 (by omega) (by decide), ?_⟩
    intro x513 ex513
    intro x514 ex514
    refine ⟨sc_in (j := 2) hv hc hL ex514 (by omega) (by decide), ?_⟩
    intro x515 ex515
    intro x516 ex516
    refine ⟨sc_in (j := 3) hv hc hL ex516 (by omega) (by decide), ?_⟩
    intro x517 ex517
    intro x518 ex518
    refine ⟨sc_in (j := 4) hv hc hL ex518 (by omega) (by decide), ?_⟩
    intro x519 ex519
    refine ⟨fun c520 => ?_, fun c520 => ?_⟩
    · unfold P_L_law_1176
      refine ⟨o2, ?_⟩
      refine ⟨by show _ ≤ 601024; omega, by show _ ≤ 7293034; omega, ?_⟩
      refine mn_X11_round hI o2 (fun x522 S521 hJ g523 fc524 Kg523 nf2 => ?_)
      have tp := tt_fri tp o1 o2 Kg523 fc524 (by decide) (by decide) (by decide) (by decide)
      have fa := fa_fri fa o1 o2 fc524 (by decide) (by decide)
      have wh := wh_set nf1 fc524 (by decide) nf2
      have hI := hJ
      have l3 := (gr_len g523 o3).trans l3
      have o1 := gr_ob g523 o1
      have o2 := gr_ob g523 o2
      have o3 := gr_ob g523 o3
      intro _
      unfold P_L_law_2341
      intro x525 ex525
      have back := hb x525 ex525
      exact back _ _ _ hI o1 o2 o3 l3 tp fa wh (by omega) (by omega)
    · unfold P_L_law_1176
      refine ⟨o2, ?_⟩
      refine ⟨by show _ ≤ 601024; omega, by show _ ≤ 7293034; omega, ?_⟩
      refine mn_X11_round hI o2 (fun x527 S526 hJ g528 fc529 Kg528 nf2 => ?_)
      have tp := tt_fri tp o1 o2 Kg528 fc529 (by decide) (by decide) (by decide) (by decide)
      have fa := fa_fri fa o1 o2 fc529 (by decide) (by decide)
      have wh := wh_set nf1 fc529 (by decide) nf2
      have hI := hJ
      have l3 := (gr_len g528 o3).trans l3
      have o1 := gr_ob g528 o1
      have o2 := gr_ob g528 o2
      have o3 := gr_ob g528 o3
      intro _
      unfold P_L_law_2341
      intro x530 ex530
      have back := hb x530 ex530
      exact back _ _ _ hI o1 o2 o3 l3 tp fa wh (by omega) (by omega)
set_option maxHeartbeats 4000000 in
set_option maxRecDepth 20000 in
theorem a_L_law_1183 {scL : Nat} {scx : Nat → Int32} {Q : Int32 → HS → Prop} {X23 : Nat → Nat → Nat → Int32 → Nat → Nat → HS → Prop} {v1 v2 v3 : Nat} {v4 : Int32} {kk nn : Nat} {S : HS} {c : Nat} (hL : scL ≤ 4096) (hc : 8 * c + 8 ≤ scL) (hb : ∀ x : Int32, x = v4 + (8 : Int32) → ∀ (kk nn : Nat) (T : HS), IV T → ob T v1 9 → ob T v2 11 → ob T v3 14 → hN T v3 = 1 → TT v1 v2 T → fI T v1 7 = fI T v2 13 → WH v1 v2 T → kk ≤ 200 + 35 * (c + 1) → nn ≤ 13000 + 8200 * (c + 1) → X23 v1 v2 v3 x kk nn T) (h : LI v1 v2 v3 v4 kk nn S c) : P_L_law_1183 scL scx Q X23 v1 v2 v3 v4 kk nn S := by
  obtain ⟨hI, o1, o2, o3, l3, tp, fa, wh, hv, hk, hn⟩ := h
  unfold P_L_law_1183
  intro x531 ex531
  refine ⟨sc_in (j := 1) hv hc hL ex531 (by omega) (by decide), ?_⟩
  intro x532 ex532
  intro x533 ex533
  refine ⟨sc_in (j := 2) hv hc hL ex533 (by omega) (by decide), ?_⟩
  intro x534 ex534
  intro x535 ex535
  refine ⟨sc_in (j := 3) hv hc hL ex535 (by omega) (by decide), ?_⟩
  intro x536 ex536
  refine ⟨o1, ?_⟩
  refine ⟨by show _ ≤ 601024; omega, by show _ ≤ 7293034; omega, ?_⟩
  refine mn_X9_driest hI o1 (fun x538 S537 hJ g539 fc540 Kg539 nf1 => ?_)
  have tp := tt_fri tp o1 o2 Kg539 fc540 (by decide) (by decide) (by decide) (by decide)
  have fa := fa_fri fa o1 o2 fc540 (by decide) (by decide)
  have hI := hJ
  have l3 := (gr_len g539 o3).trans l3
  have o1 := gr_ob g539 o1
  have o2 := gr_ob g539 o2
  have o3 := gr_ob g539 o3
  intro _
  intro x541 ex541
  refine ⟨sc_in (j := 1) hv hc hL ex541 (by omega) (by decide), ?_⟩
  intro x542 ex542
  intro x543 ex543
  refine ⟨sc_in (j := 2) hv hc hL ex543 (by omega) (by decide), ?_⟩
  intro x544 ex544
  intro x545 ex545
  refine ⟨sc_in (j := 3) hv hc hL ex545 (by omega) (by decide), ?_⟩
  intro x546 ex546
  refine ⟨o2, ?_⟩
  refine ⟨by show _ ≤ 601024; omega, by show _ ≤ 7293034; omega, ?_⟩
  refine mn_X11_driest hI o2 (fun x548 S547 hJ g549 fc550 Kg549 nf2 => ?_)
  have tp := tt_fri tp o1 o2 Kg549 fc550 (by decide) (by decide) (by decide) (by decide)
  have fa := fa_fri fa o1 o2 fc550 (by decide) (by decide)
  have wh := wh_set nf1 fc550 (by decide) nf2
  have hI := hJ
  have l3 := (gr_len g549 o3).trans l3
  have o1 := gr_ob g549 o1
  have o2 := gr_ob g549 o2
  have o3 := gr_ob g549 o3
  intro _
  unfold P_L_law_2341
  intro x551 ex551
  have back := hb x551 ex551
  exact back _ _ _ hI o1 o2 o3 l3 tp fa wh (by omega) (by omega)
set_option maxHeartbeats 4000000 in
set_option maxRecDepth 20000 in
theorem a_L_law_1232 {scL : Nat} {scx : Nat → Int32} {Q : Int32 → HS → Prop} {X23 : Nat → Nat → Nat → Int32 → Nat → Nat → HS → Prop} {v1 v2 v3 : Nat} {v4 : Int32} {kk nn : Nat} {S : HS} {c : Nat} (hL : scL ≤ 4096) (hc : 8 * c + 8 ≤ scL) (hb : ∀ x : Int32, x = v4 + (8 : Int32) → ∀ (kk nn : Nat) (T : HS), IV T → ob T v1 9 → ob T v2 11 → ob T v3 14 → hN T v3 = 1 → TT v1 v2 T → fI T v1 7 = fI T v2 13 → WH v1 v2 T → kk ≤ 200 + 35 * (c + 1) → nn ≤ 13000 + 8200 * (c + 1) → X23 v1 v2 v3 x kk nn T) (h : LI v1 v2 v3 v4 kk nn S c) : P_L_law_1232 scL scx Q X23 v1 v2 v3 v4 kk nn S := by
  obtain ⟨hI, o1, o2, o3, l3, tp, fa, wh, hv, hk, hn⟩ := h
  unfold P_L_law_1232
  intro x552 ex552
  refine ⟨sc_in (j := 1) hv hc hL ex552 (by omega) (by decide), ?_⟩
  intro x553 ex553
  intro x554 ex554
  refine ⟨sc_in (j := 2) hv hc hL ex554 (by omega) (by decide), ?_⟩
  intro x555 ex555
  intro x556 ex556
  refine ⟨sc_in (j := 3) hv hc hL ex556 (by omega) (by decide), ?_⟩
  intro x557 ex557
  intro x558 ex558
  refine ⟨sc_in (j := 4) hv hc hL ex558 (by omega) (by decide), ?_⟩
  intro x559 ex559
  intro x560 ex560
  refine ⟨sc_in (j := 5) hv hc hL ex560 (by omega) (by decide), ?_⟩
  intro x561 ex561
  intro x562 ex562
  refine ⟨sc_in (j := 6) hv hc hL ex562 (by omega) (by decide), ?_⟩
  intro x563 ex563
  intro x564 ex564
  refine ⟨sc_in (j := 7) hv hc hL ex564 (by omega) (by decide), ?_⟩
  intro x565 ex565
  refine ⟨fun c566 => ?_, fun c566 => ?_⟩
  · unfold P_L_law_1285
    refine ⟨o1, ?_⟩
    refine ⟨by show _ ≤ 601024; omega, by show _ ≤ 7293034; omega, ?_⟩
    refine mn_X9_lee hI o1 (fun x568 S567 hJ g569 fc570 Kg569 nf1 => ?_)
    have tp := tt_fri tp o1 o2 Kg569 fc570 (by decide) (by decide) (by decide) (by decide)
    have fa := fa_fri fa o1 o2 fc570 (by decide) (by decide)
    have hI := hJ
    have l3 := (gr_len g569 o3).trans l3
    have o1 := gr_ob g569 o1
    have o2 := gr_ob g569 o2
    have o3 := gr_ob g569 o3
    intro _
    intro x571 ex571
    refine ⟨sc_in (j := 1) hv hc hL ex571 (by omega) (by decide), ?_⟩
    intro x572 ex572
    intro x573 ex573
    refine ⟨sc_in (j := 2) hv hc hL ex573 (by omega) (by decide), ?_⟩
    intro x574 ex574
    intro x575 ex575
    refine ⟨sc_in (j := 3) hv hc hL ex575 (by omega) (by decide), ?_⟩
    intro x576 ex576
    intro x577 ex577
    refine ⟨sc_in (j := 4) hv hc hL ex577 (by omega) (by decide), ?_⟩
    intro x578 ex578
    intro x579 ex579
    refine ⟨sc_in (j := 5) hv hc hL ex579 (by omega) (by decide), ?_⟩
    intro x580 ex580
    intro x581 ex581
    refine ⟨sc_in (j := 6) hv hc hL ex581 (by omega) (by decide), ?_⟩
    intro x582 ex582
    intro x583 ex583
    refine ⟨sc_in (j := 7) hv hc hL ex583 (by omega) (by decide), ?_⟩
    intro x584 ex584
    refine ⟨fun c585 => ?_, fun c585 => ?_⟩
    · unfold P_L_law_1342
      refine ⟨o2, ?_⟩
      refine ⟨by show _ ≤ 601024; omega, by show _ ≤ 7293034; omega, ?_⟩
      refine mn_X11_lee hI o2 (fun x587 S586 hJ g588 fc589 Kg588 nf2 => ?_)
      have tp := tt_fri tp o1 o2 Kg588 fc589 (by decide) (by decide) (by decide) (by decide)
      have fa := fa_fri fa o1 o2 fc589 (by decide) (by decide)
      have wh := wh_set nf1 fc589 (by decide) nf2
      have hI := hJ
      have l3 := (gr_len g588 o3).trans l3
      have o1 := gr_ob g588 o1
      have o2 := gr_ob g588 o2
      have o3 := gr_ob g588 o3
      intro _
      unfold P_L_law_2341
      intro x590 ex590
      have back := hb x590 ex590
      exact back _ _ _ hI o1 o2 o3 l3 tp fa wh (by omega) (by omega)
    · unfold P_L_law_1342
      refine ⟨o2, ?_⟩
      refine ⟨by show _ ≤ 601024; omega, by show _ ≤ 7293034; omega, ?_⟩
      refine mn_X11_lee hI o2 (fun x592 S591 hJ g593 fc594 Kg593 nf2 => ?_)
      have tp := tt_fri tp o1 o2 Kg593 fc594 (by decide) (by decide) (by decide) (by decide)
      have fa := fa_fri fa o1 o2 fc594 (by decide) (by decide)
      have wh := wh_set nf1 fc594 (by decide) nf2
      have hI := hJ
      have l3 := (gr_len g593 o3).trans l3
      have o1 := gr_ob g593 o1
      have o2 := gr_ob g593 o2
      have o3 := gr_ob g593 o3
      intro _
      unfold P_L_law_2341
      intro x595 ex595
      have back := hb x595 ex595
      exact back _ _ _ hI o1 o2 o3 l3 tp fa wh (by omega) (by omega)
  · unfold P_L_law_1285
    refine ⟨o1, ?_⟩
    refine ⟨by show _ ≤ 601024; omega, by show _ ≤ 7293034; omega, ?_⟩
    refine mn_X9_lee hI o1 (fun x597 S596 hJ g598 fc599 Kg598 nf1 => ?_)
    have tp := tt_fri tp o1 o2 Kg598 fc599 (by decide) (by decide) (by decide) (by decide)
    have fa := fa_fri fa o1 o2 fc599 (by decide) (by decide)
    have hI := hJ
    have l3 := (gr_len g598 o3).trans l3
    have o1 := gr_ob g598 o1
    have o2 := gr_ob g598 o2
    have o3 := gr_ob g598 o3
    intro _
    intro x600 ex600
    refine ⟨sc_in (j := 1) hv hc hL ex600 (by omega) (by decide), ?_⟩
    intro x601 ex601
    intro x602 ex602
    refine ⟨sc_in (j := 2) hv hc hL ex602 (by omega) (by decide), ?_⟩
    intro x603 ex603
    intro x604 ex604
    refine ⟨sc_in (j := 3) hv hc hL ex604 (by omega) (by decide), ?_⟩
    intro x605 ex605
    intro x606 ex606
    refine ⟨sc_in (j := 4) hv hc hL ex606 (by omega) (by decide), ?_⟩
    intro x607 ex607
    intro x608 ex608
    refine ⟨sc_in (j := 5) hv hc hL ex608 (by omega) (by decide), ?_⟩
    intro x609 ex609
    intro x610 ex610
    refine ⟨sc_in (j := 6) hv hc hL ex610 (by omega) (by decide), ?_⟩
    intro x611 ex611
    intro x612 ex612
    refine ⟨sc_in (j := 7) hv hc hL ex612 (by omega) (by decide), ?_⟩
    intro x613 ex613
    refine ⟨fun c614 => ?_, fun c614 => ?_⟩
    · unfold P_L_law_1342
      refine ⟨o2, ?_⟩
      refine ⟨by show _ ≤ 601024; omega, by show _ ≤ 7293034; omega, ?_⟩
      refine mn_X11_lee hI o2 (fun x616 S615 hJ g617 fc618 Kg617 nf2 => ?_)
      have tp := tt_fri tp o1 o2 Kg617 fc618 (by decide) (by decide) (by decide) (by decide)
      have fa := fa_fri fa o1 o2 fc618 (by decide) (by decide)
      have wh := wh_set nf1 fc618 (by decide) nf2
      have hI := hJ
      have l3 := (gr_len g617 o3).trans l3
      have o1 := gr_ob g617 o1
      have o2 := gr_ob g617 o2
      have o3 := gr_ob g617 o3
      intro _
      unfold P_L_law_2341
      intro x619 ex619
      have back := hb x619 ex619
      exact back _ _ _ hI o1 o2 o3 l3 tp fa wh (by omega) (by omega)
    · unfold P_L_law_1342
      refine ⟨o2, ?_⟩
      refine ⟨by show _ ≤ 601024; omega, by show _ ≤ 7293034; omega, ?_⟩
      refine mn_X11_lee hI o2 (fun x621 S620 hJ g622 fc623 Kg622 nf2 => ?_)
      have tp := tt_fri tp o1 o2 Kg622 fc623 (by decide) (by decide) (by decide) (by decide)
      have fa := fa_fri fa o1 o2 fc623 (by decide) (by decide)
      have wh := wh_set nf1 fc623 (by decide) nf2
      have hI := hJ
      have l3 := (gr_len g622 o3).trans l3
      have o1 := gr_ob g622 o1
      have o2 := gr_ob g622 o2
      have o3 := gr_ob g622 o3
      intro _
      unfold P_L_law_2341
      intro x624 ex624
      have back := hb x624 ex624
      exact back _ _ _ hI o1 o2 o3 l3 tp fa wh (by omega) (by omega)
set_option maxHeartbeats 4000000 in
set_option maxRecDepth 20000 in
theorem a_L_law_1349 {scL : Nat} {scx : Nat → Int32} {Q : Int32 → HS → Prop} {X23 : Nat → Nat → Nat → Int32 → Nat → Nat → HS → Prop} {v1 v2 v3 : Nat} {v4 : Int32} {kk nn : Nat} {S : HS} {c : Nat} (hL : scL ≤ 4096) (hc : 8 * c + 8 ≤ scL) (hb : ∀ x : Int32, x = v4 + (8 : Int32) → ∀ (kk nn : Nat) (T : HS), IV T → ob T v1 9 → ob T v2 11 → ob T v3 14 → hN T v3 = 1 → TT v1 v2 T → fI T v1 7 = fI T v2 13 → WH v1 v2 T → kk ≤ 200 + 35 * (c + 1) → nn ≤ 13000 + 8200 * (c + 1) → X23 v1 v2 v3 x kk nn T) (h : LI v1 v2 v3 v4 kk nn S c) : P_L_law_1349 scL scx Q X23 v1 v2 v3 v4 kk nn S := by
  obtain ⟨hI, o1, o2, o3, l3, tp, fa, wh, hv, hk, hn⟩ := h
  unfold P_L_law_1349
  intro x625 ex625
  refine ⟨sc_in (j := 1) hv hc hL ex625 (by omega) (by decide), ?_⟩
  intro x626 ex626
  intro x627 ex627
  refine ⟨sc_in (j := 2) hv hc hL ex627 (by omega) (by decide), ?_⟩
  intro x628 ex628
  intro x629 ex629
  refine ⟨sc_in (j := 3) hv hc hL ex629 (by omega) (by decide), ?_⟩
  intro x630 ex630
  intro x631 ex631
  refine ⟨sc_in (j := 4) hv hc hL ex631 (by omega) (by decide), ?_⟩
  intro x632 ex632
  intro x633 ex633
  refine ⟨sc_in (j := 5) hv hc hL ex633 (by omega) (by decide), ?_⟩
  intro x634 ex634
  intro x635 ex635
  refine ⟨sc_in (j := 6) hv hc hL ex635 (by omega) (by decide), ?_⟩
  intro x636 ex636
  refine ⟨o1, ?_⟩
  refine ⟨by show _ ≤ 601024; omega, by show _ ≤ 7293034; omega, ?_⟩
  refine mn_X9_first hI o1 (fun x638 S637 hJ g639 fc640 Kg639 nf1 => ?_)
  have tp := tt_fri tp o1 o2 Kg639 fc640 (by decide) (by decide) (by decide) (by decide)
  have fa := fa_fri fa o1 o2 fc640 (by decide) (by decide)
  have hI := hJ
  have l3 := (gr_len g639 o3).trans l3
  have o1 := gr_ob g639 o1
  have o2 := gr_ob g639 o2
  have o3 := gr_ob g639 o3
  intro _
  intro x641 ex641
  refine ⟨sc_in (j := 1) hv hc hL ex641 (by omega) (by decide), ?_⟩
  intro x642 ex642
  intro x643 ex643
  refine ⟨sc_in (j := 2) hv hc hL ex643 (by omega) (by decide), ?_⟩
  intro x644 ex644
  intro x645 ex645
  refine ⟨sc_in (j := 3) hv hc hL ex645 (by omega) (by decide), ?_⟩
  intro x646 ex646
  intro x647 ex647
  refine ⟨sc_in (j := 4) hv hc hL ex647 (by omega) (by decide), ?_⟩
  intro x648 ex648
  intro x649 ex649
  refine ⟨sc_in (j := 5) hv hc hL ex649 (by omega) (by decide), ?_⟩
  intro x650 ex650
  intro x651 ex651
  refine ⟨sc_in (j := 6) hv hc hL ex651 (by omega) (by decide), ?_⟩
  intro x652 ex652
  refine ⟨o2, ?_⟩
  refine ⟨by show _ ≤ 601024; omega, by show _ ≤ 7293034; omega, ?_⟩
  refine mn_X11_first hI o2 (fun x654 S653 hJ g655 fc656 Kg655 nf2 => ?_)
  have tp := tt_fri tp o1 o2 Kg655 fc656 (by decide) (by decide) (by decide) (by decide)
  have fa := fa_fri fa o1 o2 fc656 (by decide) (by decide)
  have wh := wh_set nf1 fc656 (by decide) nf2
  have hI := hJ
  have l3 := (gr_len g655 o3).trans l3
  have o1 := gr_ob g655 o1
  have o2 := gr_ob g655 o2
  have o3 := gr_ob g655 o3
  intro _
  unfold P_L_law_2341
  intro x657 ex657
  have back := hb x657 ex657
  exact back _ _ _ hI o1 o2 o3 l3 tp fa wh (by omega) (by omega)
set_option maxHeartbeats 4000000 in
set_option maxRecDepth 20000 in
theorem a_L_law_1436 {scL : Nat} {scx : Nat → Int32} {Q : Int32 → HS → Prop} {X23 : Nat → Nat → Nat → Int32 → Nat → Nat → HS → Prop} {v1 v2 v3 : Nat} {v4 : Int32} {kk nn : Nat} {S : HS} {c : Nat} (hL : scL ≤ 4096) (hc : 8 * c + 8 ≤ scL) (hb : ∀ x : Int32, x = v4 + (8 : Int32) → ∀ (kk nn : Nat) (T : HS), IV T → ob T v1 9 → ob T v2 11 → ob T v3 14 → hN T v3 = 1 → TT v1 v2 T → fI T v1 7 = fI T v2 13 → WH v1 v2 T → kk ≤ 200 + 35 * (c + 1) → nn ≤ 13000 + 8200 * (c + 1) → X23 v1 v2 v3 x kk nn T) (h : LI v1 v2 v3 v4 kk nn S c) : P_L_law_1436 scL scx Q X23 v1 v2 v3 v4 kk nn S := by
  obtain ⟨hI, o1, o2, o3, l3, tp, fa, wh, hv, hk, hn⟩ := h
  unfold P_L_law_1436
  intro x658 ex658
  refine ⟨sc_in (j := 1) hv hc hL ex658 (by omega) (by decide), ?_⟩
  intro x659 ex659
  intro x660 ex660
  refine ⟨sc_in (j := 2) hv hc hL ex660 (by omega) (by decide), ?_⟩
  intro x661 ex661
  intro x662 ex662
  refine ⟨sc_in (j := 3) hv hc hL ex662 (by omega) (by decide), ?_⟩
  intro x663 ex663
  intro x664 ex664
  refine ⟨sc_in (j := 4) hv hc hL ex664 (by omega) (by decide), ?_⟩
  intro x665 ex665
  intro x666 ex666
  refine ⟨sc_in (j := 5) hv hc hL ex666 (by omega) (by decide), ?_⟩
  intro x667 ex667
  intro x668 ex668
  refine ⟨sc_in (j := 6) hv hc hL ex668 (by omega) (by decide), ?_⟩
  intro x669 ex669
  refine ⟨fun c670 => ?_, fun c670 => ?_⟩
  · unfold P_L_law_1482
    refine ⟨o1, ?_⟩
    refine ⟨by show _ ≤ 601024; omega, by show _ ≤ 7293034; omega, ?_⟩
    refine mn_X9_least hI o1 (fun x672 S671 hJ g673 fc674 Kg673 nf1 => ?_)
    have tp := tt_fri tp o1 o2 Kg673 fc674 (by decide) (by decide) (by decide) (by decide)
    have fa := fa_fri fa o1 o2 fc674 (by decide) (by decide)
    have hI := hJ
    have l3 := (gr_len g673 o3).trans l3
    have o1 := gr_ob g673 o1
    have o2 := gr_ob g673 o2
    have o3 := gr_ob g673 o3
    intro _
    intro x675 ex675
    refine ⟨sc_in (j := 1) hv hc hL ex675 (by omega) (by decide), ?_⟩
    intro x676 ex676
    intro x677 ex677
    refine ⟨sc_in (j := 2) hv hc hL ex677 (by omega) (by decide), ?_⟩
    intro x678 ex678
    intro x679 ex679
    refine ⟨sc_in (j := 3) hv hc hL ex679 (by omega) (by decide), ?_⟩
    intro x680 ex680
    intro x681 ex681
    refine ⟨sc_in (j := 4) hv hc hL ex681 (by omega) (by decide), ?_⟩
    intro x682 ex682
    intro x683 ex683
    refine ⟨sc_in (j := 5) hv hc hL ex683 (by omega) (by decide), ?_⟩
    intro x684 ex684
    intro x685 ex685
    refine ⟨sc_in (j := 6) hv hc hL ex685 (by omega) (by decide), ?_⟩
    intro x686 ex686
    refine ⟨fun c687 => ?_, fun c687 => ?_⟩
    · unfold P_L_law_1532
      refine ⟨o2, ?_⟩
      refine ⟨by show _ ≤ 601024; omega, by show _ ≤ 7293034; omega, ?_⟩
      refine mn_X11_least hI o2 (fun x689 S688 hJ g690 fc691 Kg690 nf2 => ?_)
      have tp := tt_fri tp o1 o2 Kg690 fc691 (by decide) (by decide) (by decide) (by decide)
      have fa := fa_fri fa o1 o2 fc691 (by decide) (by decide)
      have wh := wh_set nf1 fc691 (by decide) nf2
      have hI := hJ
      have l3 := (gr_len g690 o3).trans l3
      have o1 := gr_ob g690 o1
      have o2 := gr_ob g690 o2
      have o3 := gr_ob g690 o3
      intro _
      unfold P_L_law_2341
      intro x692 ex692
      have back := hb x692 ex692
      exact back _ _ _ hI o1 o2 o3 l3 tp fa wh (by omega) (by omega)
    · unfold P_L_law_1532
      refine ⟨o2, ?_⟩
      refine ⟨by show _ ≤ 601024; omega, by show _ ≤ 7293034; omega, ?_⟩
      refine mn_X11_least hI o2 (fun x694 S693 hJ g695 fc696 Kg695 nf2 => ?_)
      have tp := tt_fri tp o1 o2 Kg695 fc696 (by decide) (by decide) (by decide) (by decide)
      have fa := fa_fri fa o1 o2 fc696 (by decide) (by decide)
      have wh := wh_set nf1 fc696 (by decide) nf2
      have hI := hJ
      have l3 := (gr_len g695 o3).trans l3
      have o1 := gr_ob g695 o1
      have o2 := gr_ob g695 o2
      have o3 := gr_ob g695 o3
      intro _
      unfold P_L_law_2341
      intro x697 ex697
      have back := hb x697 ex697
      exact back _ _ _ hI o1 o2 o3 l3 tp fa wh (by omega) (by omega)
  · unfold P_L_law_1482
    refine ⟨o1, ?_⟩
    refine ⟨by show _ ≤ 601024; omega, by show _ ≤ 7293034; omega, ?_⟩
    refine mn_X9_least hI o1 (fun x699 S698 hJ g700 fc701 Kg700 nf1 => ?_)
    have tp := tt_fri tp o1 o2 Kg700 fc701 (by decide) (by decide) (by decide) (by decide)
    have fa := fa_fri fa o1 o2 fc701 (by decide) (by decide)
    have hI := hJ
    have l3 := (gr_len g700 o3).trans l3
    have o1 := gr_ob g700 o1
    have o2 := gr_ob g700 o2
    have o3 := gr_ob g700 o3
    intro _
    intro x702 ex702
    refine ⟨sc_in (j := 1) hv hc hL ex702 (by omega) (by decide), ?_⟩
    intro x703 ex703
    intro x704 ex704
    refine ⟨sc_in (j := 2) hv hc hL ex704 (by omega) (by decide), ?_⟩
    intro x705 ex705
    intro x706 ex706
    refine ⟨sc_in (j := 3) hv hc hL ex706 (by omega) (by decide), ?_⟩
    intro x707 ex707
    intro x708 ex708
    refine ⟨sc_in (j := 4) hv hc hL ex708 (by omega) (by decide), ?_⟩
    intro x709 ex709
    intro x710 ex710
    refine ⟨sc_in (j := 5) hv hc hL ex710 (by omega) (by decide), ?_⟩
    intro x711 ex711
    intro x712 ex712
    refine ⟨sc_in (j := 6) hv hc hL ex712 (by omega) (by decide), ?_⟩
    intro x713 ex713
    refine ⟨fun c714 => ?_, fun c714 => ?_⟩
    · unfold P_L_law_1532
      refine ⟨o2, ?_⟩
      refine ⟨by show _ ≤ 601024; omega, by show _ ≤ 7293034; omega, ?_⟩
      refine mn_X11_least hI o2 (fun x716 S715 hJ g717 fc718 Kg717 nf2 => ?_)
      have tp := tt_fri tp o1 o2 Kg717 fc718 (by decide) (by decide) (by decide) (by decide)
      have fa := fa_fri fa o1 o2 fc718 (by decide) (by decide)
      have wh := wh_set nf1 fc718 (by decide) nf2
      have hI := hJ
      have l3 := (gr_len g717 o3).trans l3
      have o1 := gr_ob g717 o1
      have o2 := gr_ob g717 o2
      have o3 := gr_ob g717 o3
      intro _
      unfold P_L_law_2341
      intro x719 ex719
      have back := hb x719 ex719
      exact back _ _ _ hI o1 o2 o3 l3 tp fa wh (by omega) (by omega)
    · unfold P_L_law_1532
      refine ⟨o2, ?_⟩
      refine ⟨by show _ ≤ 601024; omega, by show _ ≤ 7293034; omega, ?_⟩
      refine mn_X11_least hI o2 (fun x721 S720 hJ g722 fc723 Kg722 nf2 => ?_)
      have tp := tt_fri tp o1 o2 Kg722 fc723 (by decide) (by decide) (by decide) (by decide)
      have fa := fa_fri fa o1 o2 fc723 (by decide) (by decide)
      have wh := wh_set nf1 fc723 (by decide) nf2
      have hI := hJ
      have l3 := (gr_len g722 o3).trans l3
      have o1 := gr_ob g722 o1
      have o2 := gr_ob g722 o2
      have o3 := gr_ob g722 o3
      intro _
      unfold P_L_law_2341
      intro x724 ex724
      have back := hb x724 ex724
      exact back _ _ _ hI o1 o2 o3 l3 tp fa wh (by omega) (by omega)
set_option maxHeartbeats 4000000 in
set_option maxRecDepth 20000 in
theorem a_L_law_1539 {scL : Nat} {scx : Nat → Int32} {Q : Int32 → HS → Prop} {X23 : Nat → Nat → Nat → Int32 → Nat → Nat → HS → Prop} {v1 v2 v3 : Nat} {v4 : Int32} {kk nn : Nat} {S : HS} {c : Nat} (hL : scL ≤ 4096) (hc : 8 * c + 8 ≤ scL) (hb : ∀ x : Int32, x = v4 + (8 : Int32) → ∀ (kk nn : Nat) (T : HS), IV T → ob T v1 9 → ob T v2 11 → ob T v3 14 → hN T v3 = 1 → TT v1 v2 T → fI T v1 7 = fI T v2 13 → WH v1 v2 T → kk ≤ 200 + 35 * (c + 1) → nn ≤ 13000 + 8200 * (c + 1) → X23 v1 v2 v3 x kk nn T) (h : LI v1 v2 v3 v4 kk nn S c) : P_L_law_1539 scL scx Q X23 v1 v2 v3 v4 kk nn S := by
  obtain ⟨hI, o1, o2, o3, l3, tp, fa, wh, hv, hk, hn⟩ := h
  unfold P_L_law_1539
  intro x725 ex725
  refine ⟨sc_in (j := 1) hv hc hL ex725 (by omega) (by decide), ?_⟩
  intro x726 ex726
  intro x727 ex727
  refine ⟨sc_in (j := 2) hv hc hL ex727 (by omega) (by decide), ?_⟩
  intro x728 ex728
  intro x729 ex729
  refine ⟨sc_in (j := 3) hv hc hL ex729 (by omega) (by decide), ?_⟩
  intro x730 ex730
  intro x731 ex731
  refine ⟨sc_in (j := 4) hv hc hL ex731 (by omega) (by decide), ?_⟩
  intro x732 ex732
  intro x733 ex733
  refine ⟨sc_in (j := 5) hv hc hL ex733 (by omega) (by decide), ?_⟩
  intro x734 ex734
  refine ⟨o1, ?_⟩
  refine ⟨by show _ ≤ 601024; omega, by show _ ≤ 7293034; omega, ?_⟩
  refine mn_X9_there hI o1 (fun x736 S735 hJ g737 fc738 Kg737 nf1 => ?_)
  have tp := tt_fri tp o1 o2 Kg737 fc738 (by decide) (by decide) (by decide) (by decide)
  have fa := fa_fri fa o1 o2 fc738 (by decide) (by decide)
  have hI := hJ
  have l3 := (gr_len g737 o3).trans l3
  have o1 := gr_ob g737 o1
  have o2 := gr_ob g737 o2
  have o3 := gr_ob g737 o3
  intro _
  intro x739 ex739
  refine ⟨sc_in (j := 1) hv hc hL ex739 (by omega) (by decide), ?_⟩
  intro x740 ex740
  intro x741 ex741
  refine ⟨sc_in (j := 2) hv hc hL ex741 (by omega) (by decide), ?_⟩
  intro x742 ex742
  intro x743 ex743
  refine ⟨sc_in (j := 3) hv hc hL ex743 (by omega) (by decide), ?_⟩
  intro x744 ex744
  intro x745 ex745
  refine ⟨sc_in (j := 4) hv hc hL ex745 (by omega) (by decide), ?_⟩
  intro x746 ex746
  intro x747 ex747
  refine ⟨sc_in (j := 5) hv hc hL ex747 (by omega) (by decide), ?_⟩
  intro x748 ex748
  refine ⟨o2, ?_⟩
  refine ⟨by show _ ≤ 601024; omega, by show _ ≤ 7293034; omega, ?_⟩
  refine mn_X11_there hI o2 (fun x750 S749 hJ g751 fc752 Kg751 nf2 => ?_)
  have tp := tt_fri tp o1 o2 Kg751 fc752 (by decide) (by decide) (by decide) (by decide)
  have fa := fa_fri fa o1 o2 fc752 (by decide) (by decide)
  have wh := wh_set nf1 fc752 (by decide) nf2
  have hI := hJ
  have l3 := (gr_len g751 o3).trans l3
  have o1 := gr_ob g751 o1
  have o2 := gr_ob g751 o2
  have o3 := gr_ob g751 o3
  intro _
  unfold P_L_law_2341
  intro x753 ex753
  have back := hb x753 ex753
  exact back _ _ _ hI o1 o2 o3 l3 tp fa wh (by omega) (by omega)
set_option maxHeartbeats 4000000 in
set_option maxRecDepth 20000 in
theorem a_L_law_1612 {scL : Nat} {scx : Nat → Int32} {Q : Int32 → HS → Prop} {X23 : Nat → Nat → Nat → Int32 → Nat → Nat → HS → Prop} {v1 v2 v3 : Nat} {v4 : Int32} {kk nn : Nat} {S : HS} {c : Nat} (hL : scL ≤ 4096) (hc : 8 * c + 8 ≤ scL) (hb : ∀ x : Int32, x = v4 + (8 : Int32) → ∀ (kk nn : Nat) (T : HS), IV T → ob T v1 9 → ob T v2 11 → ob T v3 14 → hN T v3 = 1 → TT v1 v2 T → fI T v1 7 = fI T v2 13 → WH v1 v2 T → kk ≤ 200 + 35 * (c + 1) → nn ≤ 13000 + 8200 * (c + 1) → X23 v1 v2 v3 x kk nn T) (h : LI v1 v2 v3 v4 kk nn S c) : P_L_law_1612 scL scx Q X23 v1 v2 v3 v4 kk nn S := by
  obtain ⟨hI, o1, o2, o3, l3, tp, fa, wh, hv, hk, hn⟩ := h
  unfold P_L_law_1612
  intro x754 ex754
  refine ⟨sc_in (j := 1) hv hc hL ex754 (by omega) (by decide), ?_⟩
  intro x755 ex755
  intro x756 ex756
  refine ⟨sc_in (j := 2) hv hc hL ex756 (by omega) (by decide), ?_⟩
  intro x757 ex757
  intro x758 ex758
  refine ⟨sc_in (j := 3) hv hc hL ex758 (by omega) (by decide), ?_⟩
  intro x759 ex759
  intro x760 ex760
  refine ⟨sc_in (j := 4) hv hc hL ex760 (by omega) (by decide), ?_⟩
  intro x761 ex761
  intro x762 ex762
  refine ⟨sc_in (j := 5) hv hc hL ex762 (by omega) (by decide), ?_⟩
  intro x763 ex763
  refine ⟨o1, ?_⟩
  refine ⟨by show _ ≤ 601024; omega, by show _ ≤ 7293034; omega, ?_⟩
  refine mn_X9_steps hI o1 (fun x765 S764 hJ g766 fc767 Kg766 nf1 => ?_)
  have tp := tt_fri tp o1 o2 Kg766 fc767 (by decide) (by decide) (by decide) (by decide)
  have fa := fa_fri fa o1 o2 fc767 (by decide) (by decide)
  have hI := hJ
  have l3 := (gr_len g766 o3).trans l3
  have o1 := gr_ob g766 o1
  have o2 := gr_ob g766 o2
  have o3 := gr_ob g766 o3
  intro _
  intro x768 ex768
  refine ⟨sc_in (j := 1) hv hc hL ex768 (by omega) (by decide), ?_⟩
  intro x769 ex769
  intro x770 ex770
  refine ⟨sc_in (j := 2) hv hc hL ex770 (by omega) (by decide), ?_⟩
  intro x771 ex771
  intro x772 ex772
  refine ⟨sc_in (j := 3) hv hc hL ex772 (by omega) (by decide), ?_⟩
  intro x773 ex773
  intro x774 ex774
  refine ⟨sc_in (j := 4) hv hc hL ex774 (by omega) (by decide), ?_⟩
  intro x775 ex775
  intro x776 ex776
  refine ⟨sc_in (j := 5) hv hc hL ex776 (by omega) (by decide), ?_⟩
  intro x777 ex777
  refine ⟨o2, ?_⟩
  refine ⟨by show _ ≤ 601024; omega, by show _ ≤ 7293034; omega, ?_⟩
  refine mn_X11_steps hI o2 (fun x779 S778 hJ g780 fc781 Kg780 nf2 => ?_)
  have tp := tt_fri tp o1 o2 Kg780 fc781 (by decide) (by decide) (by decide) (by decide)
  have fa := fa_fri fa o1 o2 fc781 (by decide) (by decide)
  have wh := wh_set nf1 fc781 (by decide) nf2
  have hI := hJ
  have l3 := (gr_len g780 o3).trans l3
  have o1 := gr_ob g780 o1
  have o2 := gr_ob g780 o2
  have o3 := gr_ob g780 o3
  intro _
  unfold P_L_law_2341
  intro x782 ex782
  have back := hb x782 ex782
  exact back _ _ _ hI o1 o2 o3 l3 tp fa wh (by omega) (by omega)
set_option maxHeartbeats 4000000 in
set_option maxRecDepth 20000 in
theorem a_L_law_1685 {scL : Nat} {scx : Nat → Int32} {Q : Int32 → HS → Prop} {X23 : Nat → Nat → Nat → Int32 → Nat → Nat → HS → Prop} {v1 v2 v3 : Nat} {v4 : Int32} {kk nn : Nat} {S : HS} {c : Nat} (hL : scL ≤ 4096) (hc : 8 * c + 8 ≤ scL) (hb : ∀ x : Int32, x = v4 + (8 : Int32) → ∀ (kk nn : Nat) (T : HS), IV T → ob T v1 9 → ob T v2 11 → ob T v3 14 → hN T v3 = 1 → TT v1 v2 T → fI T v1 7 = fI T v2 13 → WH v1 v2 T → kk ≤ 200 + 35 * (c + 1) → nn ≤ 13000 + 8200 * (c + 1) → X23 v1 v2 v3 x kk nn T) (h : LI v1 v2 v3 v4 kk nn S c) : P_L_law_1685 scL scx Q X23 v1 v2 v3 v4 kk nn S := by
  obtain ⟨hI, o1, o2, o3, l3, tp, fa, wh, hv, hk, hn⟩ := h
  unfold P_L_law_1685
  intro x783 ex783
  refine ⟨sc_in (j := 1) hv hc hL ex783 (by omega) (by decide), ?_⟩
  intro x784 ex784
  intro x785 ex785
  refine ⟨sc_in (j := 2) hv hc hL ex785 (by omega) (by decide), ?_⟩
  intro x786 ex786
  intro x787 ex787
  refine ⟨sc_in (j := 3) hv hc hL ex787 (by omega) (by decide), ?_⟩
  intro x788 ex788
  intro x789 ex789
  refine ⟨sc_in (j := 4) hv hc hL ex789 (by omega) (by decide), ?_⟩
  intro x790 ex790
  intro x791 ex791
  refine ⟨sc_in (j := 5) hv hc hL ex791 (by omega) (by decide), ?_⟩
  intro x792 ex792
  intro x793 ex793
  refine ⟨sc_in (j := 6) hv hc hL ex793 (by omega) (by decide), ?_⟩
  intro x794 ex794
  refine ⟨o1, ?_⟩
  refine ⟨by show _ ≤ 601024; omega, by show _ ≤ 7293034; omega, ?_⟩
  refine mn_X9_step hI o1 (fun x796 S795 hJ g797 fc798 Kg797 nf1 => ?_)
  have tp := tt_fri tp o1 o2 Kg797 fc798 (by decide) (by decide) (by decide) (by decide)
  have fa := fa_fri fa o1 o2 fc798 (by decide) (by decide)
  have hI := hJ
  have l3 := (gr_len g797 o3).trans l3
  have o1 := gr_ob g797 o1
  have o2 := gr_ob g797 o2
  have o3 := gr_ob g797 o3
  intro _
  intro x799 ex799
  refine ⟨sc_in (j := 1) hv hc hL ex799 (by omega) (by decide), ?_⟩
  intro x800 ex800
  intro x801 ex801
  refine ⟨sc_in (j := 2) hv hc hL ex801 (by omega) (by decide), ?_⟩
  intro x802 ex802
  intro x803 ex803
  refine ⟨sc_in (j := 3) hv hc hL ex803 (by omega) (by decide), ?_⟩
  intro x804 ex804
  intro x805 ex805
  refine ⟨sc_in (j := 4) hv hc hL ex805 (by omega) (by decide), ?_⟩
  intro x806 ex806
  intro x807 ex807
  refine ⟨sc_in (j := 5) hv hc hL ex807 (by omega) (by decide), ?_⟩
  intro x808 ex808
  intro x809 ex809
  refine ⟨sc_in (j := 6) hv hc hL ex809 (by omega) (by decide), ?_⟩
  intro x810 ex810
  refine ⟨o2, ?_⟩
  refine ⟨by show _ ≤ 601024; omega, by show _ ≤ 7293034; omega, ?_⟩
  refine mn_X11_step hI o2 (fun x812 S811 hJ g813 fc814 Kg813 nf2 => ?_)
  have tp := tt_fri tp o1 o2 Kg813 fc814 (by decide) (by decide) (by decide) (by decide)
  have fa := fa_fri fa o1 o2 fc814 (by decide) (by decide)
  have wh := wh_set nf1 fc814 (by decide) nf2
  have hI := hJ
  have l3 := (gr_len g813 o3).trans l3
  have o1 := gr_ob g813 o1
  have o2 := gr_ob g813 o2
  have o3 := gr_ob g813 o3
  intro _
  unfold P_L_law_2341
  intro x815 ex815
  have back := hb x815 ex815
  exact back _ _ _ hI o1 o2 o3 l3 tp fa wh (by omega) (by omega)
set_option maxHeartbeats 4000000 in
set_option maxRecDepth 20000 in
theorem a_L_law_1772 {scL : Nat} {scx : Nat → Int32} {Q : Int32 → HS → Prop} {X23 : Nat → Nat → Nat → Int32 → Nat → Nat → HS → Prop} {v1 v2 v3 : Nat} {v4 : Int32} {kk nn : Nat} {S : HS} {c : Nat} (hL : scL ≤ 4096) (hc : 8 * c + 8 ≤ scL) (hb : ∀ x : Int32, x = v4 + (8 : Int32) → ∀ (kk nn : Nat) (T : HS), IV T → ob T v1 9 → ob T v2 11 → ob T v3 14 → hN T v3 = 1 → TT v1 v2 T → fI T v1 7 = fI T v2 13 → WH v1 v2 T → kk ≤ 200 + 35 * (c + 1) → nn ≤ 13000 + 8200 * (c + 1) → X23 v1 v2 v3 x kk nn T) (h : LI v1 v2 v3 v4 kk nn S c) : P_L_law_1772 scL scx Q X23 v1 v2 v3 v4 kk nn S := by
  obtain ⟨hI, o1, o2, o3, l3, tp, fa, wh, hv, hk, hn⟩ := h
  unfold P_L_law_1772
  intro x816 ex816
  refine ⟨sc_in (j := 1) hv hc hL ex816 (by omega) (by decide), ?_⟩
  intro x817 ex817
  intro x818 ex818
  refine ⟨sc_in (j := 2) hv hc hL ex818 (by omega) (by decide), ?_⟩
  intro x819 ex819
  intro x820 ex820
  refine ⟨sc_in (j := 3) hv hc hL ex820 (by omega) (by decide), ?_⟩
  intro x821 ex821
  intro x822 ex822
  refine ⟨sc_in (j := 4) hv hc hL ex822 (by omega) (by decide), ?_⟩
  intro x823 ex823
  refine ⟨o1, ?_⟩
  refine ⟨by show _ ≤ 601024; omega, by show _ ≤ 7293034; omega, ?_⟩
  refine mn_X9_off hI o1 (fun x825 S824 hJ g826 fc827 Kg826 nf1 => ?_)
  have tp := tt_fri tp o1 o2 Kg826 fc827 (by decide) (by decide) (by decide) (by decide)
  have fa := fa_fri fa o1 o2 fc827 (by decide) (by decide)
  have hI := hJ
  have l3 := (gr_len g826 o3).trans l3
  have o1 := gr_ob g826 o1
  have o2 := gr_ob g826 o2
  have o3 := gr_ob g826 o3
  intro _
  intro x828 ex828
  refine ⟨sc_in (j := 1) hv hc hL ex828 (by omega) (by decide), ?_⟩
  intro x829 ex829
  intro x830 ex830
  refine ⟨sc_in (j := 2) hv hc hL ex830 (by omega) (by decide), ?_⟩
  intro x831 ex831
  intro x832 ex832
  refine ⟨sc_in (j := 3) hv hc hL ex832 (by omega) (by decide), ?_⟩
  intro x833 ex833
  intro x834 ex834
  refine ⟨sc_in (j := 4) hv hc hL ex834 (by omega) (by decide), ?_⟩
  intro x835 ex835
  refine ⟨o2, ?_⟩
  refine ⟨by show _ ≤ 601024; omega, by show _ ≤ 7293034; omega, ?_⟩
  refine mn_X11_off hI o2 (fun x837 S836 hJ g838 fc839 Kg838 nf2 => ?_)
  have tp := tt_fri tp o1 o2 Kg838 fc839 (by decide) (by decide) (by decide) (by decide)
  have fa := fa_fri fa o1 o2 fc839 (by decide) (by decide)
  have wh := wh_set nf1 fc839 (by decide) nf2
  have hI := hJ
  have l3 := (gr_len g838 o3).trans l3
  have o1 := gr_ob g838 o1
  have o2 := gr_ob g838 o2
  have o3 := gr_ob g838 o3
  intro _
  unfold P_L_law_2341
  intro x840 ex840
  have back := hb x840 ex840
  exact back _ _ _ hI o1 o2 o3 l3 tp fa wh (by omega) (by omega)
set_option maxHeartbeats 4000000 in
set_option maxRecDepth 20000 in
theorem a_L_law_1833 {scL : Nat} {scx : Nat → Int32} {Q : Int32 → HS → Prop} {X23 : Nat → Nat → Nat → Int32 → Nat → Nat → HS → Prop} {v1 v2 v3 : Nat} {v4 : Int32} {kk nn : Nat} {S : HS} {c : Nat} (hL : scL ≤ 4096) (hc : 8 * c + 8 ≤ scL) (hb : ∀ x : Int32, x = v4 + (8 : Int32) → ∀ (kk nn : Nat) (T : HS), IV T → ob T v1 9 → ob T v2 11 → ob T v3 14 → hN T v3 = 1 → TT v1 v2 T → fI T v1 7 = fI T v2 13 → WH v1 v2 T → kk ≤ 200 + 35 * (c + 1) → nn ≤ 13000 + 8200 * (c + 1) → X23 v1 v2 v3 x kk nn T) (h : LI v1 v2 v3 v4 kk nn S c) : P_L_law_1833 scL scx Q X23 v1 v2 v3 v4 kk nn S := by
  obtain ⟨hI, o1, o2, o3, l3, tp, fa, wh, hv, hk, hn⟩ := h
  unfold P_L_law_1833
  intro x841 ex841
  refine ⟨sc_in (j := 1) hv hc hL ex841 (by omega) (by decide), ?_⟩
  intro x842 ex842
  refine ⟨o1, ?_⟩
  refine ⟨by show _ ≤ 601024; omega, by show _ ≤ 7293034; omega, ?_⟩
  refine mn_X9_fits hI o1 (fun x844 S843 hJ g845 fc846 Kg845 nf1 => ?_)
  have tp := tt_fri tp o1 o2 Kg845 fc846 (by decide) (by decide) (by decide) (by decide)
  have fa := fa_fri fa o1 o2 fc846 (by decide) (by decide)
  have hI := hJ
  have l3 := (gr_len g845 o3).trans l3
  have o1 := gr_ob g845 o1
  have o2 := gr_ob g845 o2
  have o3 := gr_ob g845 o3
  intro _
  intro x847 ex847
  refine ⟨sc_in (j := 1) hv hc hL ex847 (by omega) (by decide), ?_⟩
  intro x848 ex848
  refine ⟨o2, ?_⟩
  refine ⟨by show _ ≤ 601024; omega, by show _ ≤ 7293034; omega, ?_⟩
  refine mn_X11_fits hI o2 (fun x850 S849 hJ g851 fc852 Kg851 nf2 => ?_)
  have tp := tt_fri tp o1 o2 Kg851 fc852 (by decide) (by decide) (by decide) (by decide)
  have fa := fa_fri fa o1 o2 fc852 (by decide) (by decide)
  have wh := wh_set nf1 fc852 (by decide) nf2
  have hI := hJ
  have l3 := (gr_len g851 o3).trans l3
  have o1 := gr_ob g851 o1
  have o2 := gr_ob g851 o2
  have o3 := gr_ob g851 o3
  intro _
  unfold P_L_law_2341
  intro x853 ex853
  have back := hb x853 ex853
  exact back _ _ _ hI o1 o2 o3 l3 tp fa wh (by omega) (by omega)
set_option maxHeartbeats 4000000 in
set_option maxRecDepth 20000 in
theorem a_L_law_1858 {scL : Nat} {scx : Nat → Int32} {Q : Int32 → HS → Prop} {X23 : Nat → Nat → Nat → Int32 → Nat → Nat → HS → Prop} {v1 v2 v3 : Nat} {v4 : Int32} {kk nn : Nat} {S : HS} {c : Nat} (hL : scL ≤ 4096) (hc : 8 * c + 8 ≤ scL) (hb : ∀ x : Int32, x = v4 + (8 : Int32) → ∀ (kk nn : Nat) (T : HS), IV T → ob T v1 9 → ob T v2 11 → ob T v3 14 → hN T v3 = 1 → TT v1 v2 T → fI T v1 7 = fI T v2 13 → WH v1 v2 T → kk ≤ 200 + 35 * (c + 1) → nn ≤ 13000 + 8200 * (c + 1) → X23 v1 v2 v3 x kk nn T) (h : LI v1 v2 v3 v4 kk nn S c) : P_L_law_1858 scL scx Q X23 v1 v2 v3 v4 kk nn S := by
  obtain ⟨hI, o1, o2, o3, l3, tp, fa, wh, hv, hk, hn⟩ := h
  unfold P_L_law_1858
  intro x854 ex854
  refine ⟨sc_in (j := 1) hv hc hL ex854 (by omega) (by decide), ?_⟩
  intro x855 ex855
  intro x856 ex856
  refine ⟨sc_in (j := 2) hv hc hL ex856 (by omega) (by decide), ?_⟩
  intro x857 ex857
  refine ⟨o1, ?_⟩
  refine ⟨by show _ ≤ 601024; omega, by show _ ≤ 7293034; omega, ?_⟩
  refine mn_X9_fit hI o1 (fun x859 S858 hJ g860 fc861 Kg860 nf1 => ?_)
  have tp := tt_fri tp o1 o2 Kg860 fc861 (by decide) (by decide) (by decide) (by decide)
  have fa := fa_fri fa o1 o2 fc861 (by decide) (by decide)
  have hI := hJ
  have l3 := (gr_len g860 o3).trans l3
  have o1 := gr_ob g860 o1
  have o2 := gr_ob g860 o2
  have o3 := gr_ob g860 o3
  intro _
  intro x862 ex862
  refine ⟨sc_in (j := 1) hv hc hL ex862 (by omega) (by decide), ?_⟩
  intro x863 ex863
  intro x864 ex864
  refine ⟨sc_in (j := 2) hv hc hL ex864 (by omega) (by decide), ?_⟩
  intro x865 ex865
  refine ⟨o2, ?_⟩
  refine ⟨by show _ ≤ 601024; omega, by show _ ≤ 7293034; omega, ?_⟩
  refine mn_X11_fit hI o2 (fun x867 S866 hJ g868 fc869 Kg868 nf2 => ?_)
  have tp := tt_fri tp o1 o2 Kg868 fc869 (by decide) (by decide) (by decide) (by decide)
  have fa := fa_fri fa o1 o2 fc869 (by decide) (by decide)
  have wh := wh_set nf1 fc869 (by decide) nf2
  have hI := hJ
  have l3 := (gr_len g868 o3).trans l3
  have o1 := gr_ob g868 o1
  have o2 := gr_ob g868 o2
  have o3 := gr_ob g868 o3
  intro _
  unfold P_L_law_2341
  intro x870 ex870
  have back := hb x870 ex870
  exact back _ _ _ hI o1 o2 o3 l3 tp fa wh (by omega) (by omega)
set_option maxHeartbeats 4000000 in
set_option maxRecDepth 20000 in
theorem a_L_law_1895 {scL : Nat} {scx : Nat → Int32} {Q : Int32 → HS → Prop} {X23 : Nat → Nat → Nat → Int32 → Nat → Nat → HS → Prop} {v1 v2 v3 : Nat} {v4 : Int32} {kk nn : Nat} {S : HS} {c : Nat} (hL : scL ≤ 4096) (hc : 8 * c + 8 ≤ scL) (hb : ∀ x : Int32, x = v4 + (8 : Int32) → ∀ (kk nn : Nat) (T : HS), IV T → ob T v1 9 → ob T v2 11 → ob T v3 14 → hN T v3 = 1 → TT v1 v2 T → fI T v1 7 = fI T v2 13 → WH v1 v2 T → kk ≤ 200 + 35 * (c + 1) → nn ≤ 13000 + 8200 * (c + 1) → X23 v1 v2 v3 x kk nn T) (h : LI v1 v2 v3 v4 kk nn S c) : P_L_law_1895 scL scx Q X23 v1 v2 v3 v4 kk nn S := by
  obtain ⟨hI, o1, o2, o3, l3, tp, fa, wh, hv, hk, hn⟩ := h
  unfold P_L_law_1895
  refine ⟨o1, ?_⟩
  refine ⟨by show _ ≤ 601024; omega, by show _ ≤ 7293034; omega, ?_⟩
  refine mn_X9_lies hI o1 (fun x872 S871 hJ g873 fc874 Kg873 nf1 => ?_)
  have tp := tt_fri tp o1 o2 Kg873 fc874 (by decide) (by decide) (by decide) (by decide)
  have fa := fa_fri fa o1 o2 fc874 (by decide) (by decide)
  have hI := hJ
  have l3 := (gr_len g873 o3).trans l3
  have o1 := gr_ob g873 o1
  have o2 := gr_ob g873 o2
  have o3 := gr_ob g873 o3
  intro _
  refine ⟨o2, ?_⟩
  refine ⟨by show _ ≤ 601024; omega, by show _ ≤ 7293034; omega, ?_⟩
  refine mn_X11_lies hI o2 (fun x876 S875 hJ g877 fc878 Kg877 nf2 => ?_)
  have tp := tt_fri tp o1 o2 Kg877 fc878 (by decide) (by decide) (by decide) (by decide)
  have fa := fa_fri fa o1 o2 fc878 (by decide) (by decide)
  have wh := wh_set nf1 fc878 (by decide) nf2
  have hI := hJ
  have l3 := (gr_len g877 o3).trans l3
  have o1 := gr_ob g877 o1
  have o2 := gr_ob g877 o2
  have o3 := gr_ob g877 o3
  intro _
  unfold P_L_law_2341
  intro x879 ex879
  have back := hb x879 ex879
  exact back _ _ _ hI o1 o2 o3 l3 tp fa wh (by omega) (by omega)
set_option maxHeartbeats 4000000 in
set_option maxRecDepth 20000 in
theorem a_L_law_1908 {scL : Nat} {scx : Nat → Int32} {Q : Int32 → HS → Prop} {X23 : Nat → Nat → Nat → Int32 → Nat → Nat → HS → Prop} {v1 v2 v3 : Nat} {v4 : Int32} {kk nn : Nat} {S : HS} {c : Nat} (hL : scL ≤ 4096) (hc : 8 * c + 8 ≤ scL) (hb : ∀ x : Int32, x = v4 + (8 : Int32) → ∀ (kk nn : Nat) (T : HS), IV T → ob T v1 9 → ob T v2 11 → ob T v3 14 → hN T v3 = 1 → TT v1 v2 T → fI T v1 7 = fI T v2 13 → WH v1 v2 T → kk ≤ 200 + 35 * (c + 1) → nn ≤ 13000 + 8200 * (c + 1) → X23 v1 v2 v3 x kk nn T) (h : LI v1 v2 v3 v4 kk nn S c) : P_L_law_1908 scL scx Q X23 v1 v2 v3 v4 kk nn S := by
  obtain ⟨hI, o1, o2, o3, l3, tp, fa, wh, hv, hk, hn⟩ := h
  unfold P_L_law_1908
  intro x880 ex880
  refine ⟨sc_in (j := 1) hv hc hL ex880 (by omega) (by decide), ?_⟩
  intro x881 ex881
  intro x882 ex882
  refine ⟨sc_in (j := 2) hv hc hL ex882 (by omega) (by decide), ?_⟩
  intro x883 ex883
  intro x884 ex884
  refine ⟨sc_in (j := 3) hv hc hL ex884 (by omega) (by decide), ?_⟩
  intro x885 ex885
  intro x886 ex886
  refine ⟨sc_in (j := 4) hv hc hL ex886 (by omega) (by decide), ?_⟩
  intro x887 ex887
  refine ⟨o1, ?_⟩
  refine ⟨by show _ ≤ 601024; omega, by show _ ≤ 7293034; omega, ?_⟩
  refine mn_X9_day hI o1 (fun x889 S888 hJ g890 fc891 Kg890 nf1 => ?_)
  have tp := tt_fri tp o1 o2 Kg890 fc891 (by decide) (by decide) (by decide) (by decide)
  have fa := fa_fri fa o1 o2 fc891 (by decide) (by decide)
  have hI := hJ
  have l3 := (gr_len g890 o3).trans l3
  have o1 := gr_ob g890 o1
  have o2 := gr_ob g890 o2
  have o3 := gr_ob g890 o3
  intro _
  intro x892 ex892
  refine ⟨sc_in (j := 1) hv hc hL ex892 (by omega) (by decide), ?_⟩
  intro x893 ex893
  intro x894 ex894
  refine ⟨sc_in (j := 2) hv hc hL ex894 (by omega) (by decide), ?_⟩
  intro x895 ex895
  intro x896 ex896
  refine ⟨sc_in (j := 3) hv hc hL ex896 (by omega) (by decide), ?_⟩
  intro x897 ex897
  intro x898 ex898
  refine ⟨sc_in (j := 4) hv hc hL ex898 (by omega) (by decide), ?_⟩
  intro x899 ex899
  refine ⟨o2, ?_⟩
  refine ⟨by show _ ≤ 601024; omega, by show _ ≤ 7293034; omega, ?_⟩
  refine mn_X11_day hI o2 (fun x901 S900 hJ g902 fc903 Kg902 nf2 => ?_)
  have tp := tt_fri tp o1 o2 Kg902 fc903 (by decide) (by decide) (by decide) (by decide)
  have fa := fa_fri fa o1 o2 fc903 (by decide) (by decide)
  have wh := wh_set nf1 fc903 (by decide) nf2
  have hI := hJ
  have l3 := (gr_len g902 o3).trans l3
  have o1 := gr_ob g902 o1
  have o2 := gr_ob g902 o2
  have o3 := gr_ob g902 o3
  intro _
  unfold P_L_law_2341
  intro x904 ex904
  have back := hb x904 ex904
  exact back _ _ _ hI o1 o2 o3 l3 tp fa wh (by omega) (by omega)
set_option maxHeartbeats 4000000 in
set_option maxRecDepth 20000 in
theorem a_L_law_1969 {scL : Nat} {scx : Nat → Int32} {Q : Int32 → HS → Prop} {X23 : Nat → Nat → Nat → Int32 → Nat → Nat → HS → Prop} {v1 v2 v3 : Nat} {v4 : Int32} {kk nn : Nat} {S : HS} {c : Nat} (hL : scL ≤ 4096) (hc : 8 * c + 8 ≤ scL) (hb : ∀ x : Int32, x = v4 + (8 : Int32) → ∀ (kk nn : Nat) (T : HS), IV T → ob T v1 9 → ob T v2 11 → ob T v3 14 → hN T v3 = 1 → TT v1 v2 T → fI T v1 7 = fI T v2 13 → WH v1 v2 T → kk ≤ 200 + 35 * (c + 1) → nn ≤ 13000 + 8200 * (c + 1) → X23 v1 v2 v3 x kk nn T) (h : LI v1 v2 v3 v4 kk nn S c) : P_L_law_1969 scL scx Q X23 v1 v2 v3 v4 kk nn S := by
  obtain ⟨hI, o1, o2, o3, l3, tp, fa, wh, hv, hk, hn⟩ := h
  unfold P_L_law_1969
  intro x905 ex905
  refine ⟨sc_in (j := 1) hv hc hL ex905 (by omega) (by decide), ?_⟩
  intro x906 ex906
  intro x907 ex907
  refine ⟨sc_in (j := 2) hv hc hL ex907 (by omega) (by decide), ?_⟩
  intro x908 ex908
  intro x909 ex909
  refine ⟨sc_in (j := 3) hv hc hL ex909 (by omega) (by decide), ?_⟩
  intro x910 ex910
  refine ⟨o1, ?_⟩
  refine ⟨by show _ ≤ 601024; omega, by show _ ≤ 7293034; omega, ?_⟩
  refine mn_X9_go hI o1 (fun x912 S911 hJ g913 fc914 Kg913 nf1 => ?_)
  have tp := tt_fri tp o1 o2 Kg913 fc914 (by decide) (by decide) (by decide) (by decide)
  have fa := fa_fri fa o1 o2 fc914 (by decide) (by decide)
  have hI := hJ
  have l3 := (gr_len g913 o3).trans l3
  have o1 := gr_ob g913 o1
  have o2 := gr_ob g913 o2
  have o3 := gr_ob g913 o3
  intro _
  intro x915 ex915
  refine ⟨sc_in (j := 1) hv hc hL ex915 (by omega) (by decide), ?_⟩
  intro x916 ex916
  intro x917 ex917
  refine ⟨sc_in (j := 2) hv hc hL ex917 (by omega) (by decide), ?_⟩
  intro x918 ex918
  intro x919 ex919
  refine ⟨sc_in (j := 3) hv hc hL ex919 (by omega) (by decide), ?_⟩
  intro x920 ex920
  refine ⟨o2, ?_⟩
  refine ⟨by show _ ≤ 601024; omega, by show _ ≤ 7293034; omega, ?_⟩
  refine mn_X11_go hI o2 (fun x922 S921 hJ g923 fc924 Kg923 nf2 => ?_)
  have tp := tt_fri tp o1 o2 Kg923 fc924 (by decide) (by decide) (by decide) (by decide)
  have fa := fa_fri fa o1 o2 fc924 (by decide) (by decide)
  have wh := wh_set nf1 fc924 (by decide) nf2
  have hI := hJ
  have l3 := (gr_len g923 o3).trans l3
  have o1 := gr_ob g923 o1
  have o2 := gr_ob g923 o2
  have o3 := gr_ob g923 o3
  intro _
  unfold P_L_law_2341
  intro x925 ex925
  have back := hb x925 ex925
  exact back _ _ _ hI o1 o2 o3 l3 tp fa wh (by omega) (by omega)
set_option maxHeartbeats 4000000 in
set_option maxRecDepth 20000 in
theorem a_L_law_2018 {scL : Nat} {scx : Nat → Int32} {Q : Int32 → HS → Prop} {X23 : Nat → Nat → Nat → Int32 → Nat → Nat → HS → Prop} {v1 v2 v3 : Nat} {v4 : Int32} {kk nn : Nat} {S : HS} {c : Nat} (hL : scL ≤ 4096) (hc : 8 * c + 8 ≤ scL) (hb : ∀ x : Int32, x = v4 + (8 : Int32) → ∀ (kk nn : Nat) (T : HS), IV T → ob T v1 9 → ob T v2 11 → ob T v3 14 → hN T v3 = 1 → TT v1 v2 T → fI T v1 7 = fI T v2 13 → WH v1 v2 T → kk ≤ 200 + 35 * (c + 1) → nn ≤ 13000 + 8200 * (c + 1) → X23 v1 v2 v3 x kk nn T) (h : LI v1 v2 v3 v4 kk nn S c) : P_L_law_2018 scL scx Q X23 v1 v2 v3 v4 kk nn S := by
  obtain ⟨hI, o1, o2, o3, l3, tp, fa, wh, hv, hk, hn⟩ := h
  unfold P_L_law_2018
  intro x926 ex926
  refine ⟨sc_in (j := 1) hv hc hL ex926 (by omega) (by decide), ?_⟩
  intro x927 ex927
  refine ⟨o1, ?_⟩
  refine ⟨by show _ ≤ 601024; omega, by show _ ≤ 7293034; omega, ?_⟩
  refine mn_X9_stay hI o1 (fun x929 S928 hJ g930 fc931 _ Kg930 nf1 => ?_)
  have tp := tt_fri tp o1 o2 Kg930 fc931 (by decide) (by decide) (by decide) (by decide)
  have fa := fa_fri fa o1 o2 fc931 (by decide) (by decide)
  have hI := hJ
  have l3 := (gr_len g930 o3).trans l3
  have o1 := gr_ob g930 o1
  have o2 := gr_ob g930 o2
  have o3 := gr_ob g930 o3
  intro _ _
  intro x932 ex932
  refine ⟨sc_in (j := 1) hv hc hL ex932 (by omega) (by decide), ?_⟩
  intro x933 ex933
  refine ⟨o2, ?_⟩
  refine ⟨by show _ ≤ 601024; omega, by show _ ≤ 7293034; omega, ?_⟩
  refine mn_X11_stay hI o2 (fun x935 S934 hJ g936 fc937 _ Kg936 nf2 => ?_)
  have tp := tt_fri tp o1 o2 Kg936 fc937 (by decide) (by decide) (by decide) (by decide)
  have fa := fa_fri fa o1 o2 fc937 (by decide) (by decide)
  have wh := wh_set nf1 fc937 (by decide) nf2
  have hI := hJ
  have l3 := (gr_len g936 o3).trans l3
  have o1 := gr_ob g936 o1
  have o2 := gr_ob g936 o2
  have o3 := gr_ob g936 o3
  intro _ _
  unfold P_L_law_2341
  intro x938 ex938
  have back := hb x938 ex938
  exact back _ _ _ hI o1 o2 o3 l3 tp fa wh (by omega) (by omega)
set_option maxHeartbeats 4000000 in
set_option maxRecDepth 20000 in
theorem a_L_law_2043 {scL : Nat} {scx : Nat → Int32} {Q : Int32 → HS → Prop} {X23 : Nat → Nat → Nat → Int32 → Nat → Nat → HS → Prop} {v1 v2 v3 : Nat} {v4 : Int32} {kk nn : Nat} {S : HS} {c : Nat} (hL : scL ≤ 4096) (hc : 8 * c + 8 ≤ scL) (hb : ∀ x : Int32, x = v4 + (8 : Int32) → ∀ (kk nn : Nat) (T : HS), IV T → ob T v1 9 → ob T v2 11 → ob T v3 14 → hN T v3 = 1 → TT v1 v2 T → fI T v1 7 = fI T v2 13 → WH v1 v2 T → kk ≤ 200 + 35 * (c + 1) → nn ≤ 13000 + 8200 * (c + 1) → X23 v1 v2 v3 x kk nn T) (h : LI v1 v2 v3 v4 kk nn S c) : P_L_law_2043 scL scx Q X23 v1 v2 v3 v4 kk nn S := by
  obtain ⟨hI, o1, o2, o3, l3, tp, fa, wh, hv, hk, hn⟩ := h
  unfold P_L_law_2043
  intro x939 ex939
  refine ⟨sc_in (j := 1) hv hc hL ex939 (by omega) (by decide), ?_⟩
  intro x940 ex940
  intro x941 ex941
  refine ⟨sc_in (j := 2) hv hc hL ex941 (by omega) (by decide), ?_⟩
  intro x942 ex942
  refine ⟨fun c943 => ?_, fun c943 => ?_⟩
  · unfold P_L_law_2064
    refine ⟨o1, ?_⟩
    refine ⟨by show _ ≤ 601024; omega, by show _ ≤ 7293034; omega, ?_⟩
    refine mn_X9_got hI o1 (fun x945 S944 hJ g946 fc947 Kg946 nf1 => ?_)
    have tp := tt_fri tp o1 o2 Kg946 fc947 (by decide) (by decide) (by decide) (by decide)
    have fa := fa_fri fa o1 o2 fc947 (by decide) (by decide)
    have hI := hJ
    have l3 := (gr_len g946 o3).trans l3
    have o1 := gr_ob g946 o1
    have o2 := gr_ob g946 o2
    have o3 := gr_ob g946 o3
    intro _
    intro x948 ex948
    refine ⟨sc_in (j := 1) hv hc hL ex948 (by omega) (by decide), ?_⟩
    intro x949 ex949
    intro x950 ex950
    refine ⟨sc_in (j := 2) hv hc hL ex950 (by omega) (by decide), ?_⟩
    intro x951 ex951
    refine ⟨fun c952 => ?_, fun c952 => ?_⟩
    · unfold P_L_law_2089
      refine ⟨o2, ?_⟩
      refine ⟨by show _ ≤ 601024; omega, by show _ ≤ 7293034; omega, ?_⟩
      refine mn_X11_got hI o2 (fun x954 S953 hJ g955 fc956 Kg955 nf2 => ?_)
      have tp := tt_fri tp o1 o2 Kg955 fc956 (by decide) (by decide) (by decide) (by decide)
      have fa := fa_fri fa o1 o2 fc956 (by decide) (by decide)
      have wh := wh_set nf1 fc956 (by decide) nf2
      have hI := hJ
      have l3 := (gr_len g955 o3).trans l3
      have o1 := gr_ob g955 o1
      have o2 := gr_ob g955 o2
      have o3 := gr_ob g955 o3
      intro _
      unfold P_L_law_2341
      intro x957 ex957
      have back := hb x957 ex957
      exact back _ _ _ hI o1 o2 o3 l3 tp fa wh (by omega) (by omega)
    · unfold P_L_law_2089
      refine ⟨o2, ?_⟩
      refine ⟨by show _ ≤ 601024; omega, by show _ ≤ 7293034; omega, ?_⟩
      refine mn_X11_got hI o2 (fun x959 S958 hJ g960 fc961 Kg960 nf2 => ?_)
      have tp := tt_fri tp o1 o2 Kg960 fc961 (by decide) (by decide) (by decide) (by decide)
      have fa := fa_fri fa o1 o2 fc961 (by decide) (by decide)
      have wh := wh_set nf1 fc961 (by decide) nf2
      have hI := hJ
      have l3 := (gr_len g960 o3).trans l3
      have o1 := gr_ob g960 o1
      have o2 := gr_ob g960 o2
      have o3 := gr_ob g960 o3
      intro _
      unfold P_L_law_2341
      intro x962 ex962
      have back := hb x962 ex962
      exact back _ _ _ hI o1 o2 o3 l3 tp fa wh (by omega) (by omega)
  · unfold P_L_law_2064
    refine ⟨o1, ?_⟩
    refine ⟨by show _ ≤ 601024; omega, by show _ ≤ 7293034; omega, ?_⟩
    refine mn_X9_got hI o1 (fun x964 S963 hJ g965 fc966 Kg965 nf1 => ?_)
    have tp := tt_fri tp o1 o2 Kg965 fc966 (by decide) (by decide) (by decide) (by decide)
    have fa := fa_fri fa o1 o2 fc966 (by decide) (by decide)
    have hI := hJ
    have l3 := (gr_len g965 o3).trans l3
    have o1 := gr_ob g965 o1
    have o2 := gr_ob g965 o2
    have o3 := gr_ob g965 o3
    intro _
    intro x967 ex967
    refine ⟨sc_in (j := 1) hv hc hL ex967 (by omega) (by decide), ?_⟩
    intro x968 ex968
    intro x969 ex969
    refine ⟨sc_in (j := 2) hv hc hL ex969 (by omega) (by decide), ?_⟩
    intro x970 ex970
    refine ⟨fun c971 => ?_, fun c971 => ?_⟩
    · unfold P_L_law_2089
      refine ⟨o2, ?_⟩
      refine ⟨by show _ ≤ 601024; omega, by show _ ≤ 7293034; omega, ?_⟩
      refine mn_X11_got hI o2 (fun x973 S972 hJ g974 fc975 Kg974 nf2 => ?_)
      have tp := tt_fri tp o1 o2 Kg974 fc975 (by decide) (by decide) (by decide) (by decide)
      have fa := fa_fri fa o1 o2 fc975 (by decide) (by decide)
      have wh := wh_set nf1 fc975 (by decide) nf2
      have hI := hJ
      have l3 := (gr_len g974 o3).trans l3
      have o1 := gr_ob g974 o1
      have o2 := gr_ob g974 o2
      have o3 := gr_ob g974 o3
      intro _
      unfold P_L_law_2341
      intro x976 ex976
      have back := hb x976 ex976
      exact back _ _ _ hI o1 o2 o3 l3 tp fa wh (by omega) (by omega)
    · unfold P_L_law_2089
      refine ⟨o2, ?_⟩
      refine ⟨by show _ ≤ 601024; omega, by show _ ≤ 7293034; omega, ?_⟩
      refine mn_X11_got hI o2 (fun x978 S977 hJ g979 fc980 Kg979 nf2 => ?_)
      have tp := tt_fri tp o1 o2 Kg979 fc980 (by decide) (by decide) (by decide) (by decide)
      have fa := fa_fri fa o1 o2 fc980 (by decide) (by decide)
      have wh := wh_set nf1 fc980 (by decide) nf2
      have hI := hJ
      have l3 := (gr_len g979 o3).trans l3
      have o1 := gr_ob g979 o1
      have o2 := gr_ob g979 o2
      have o3 := gr_ob g979 o3
      intro _
      unfold P_L_law_2341
      intro x981 ex981
      have back := hb x981 ex981
      exact back _ _ _ hI o1 o2 o3 l3 tp fa wh (by omega) (by omega)
set_option maxHeartbeats 4000000 in
set_option maxRecDepth 20000 in
theorem a_L_law_2096 {scL : Nat} {scx : Nat → Int32} {Q : Int32 → HS → Prop} {X23 : Nat → Nat → Nat → Int32 → Nat → Nat → HS → Prop} {v1 v2 v3 : Nat} {v4 : Int32} {kk nn : Nat} {S : HS} {c : Nat} (hL : scL ≤ 4096) (hc : 8 * c + 8 ≤ scL) (hb : ∀ x : Int32, x = v4 + (8 : Int32) → ∀ (kk nn : Nat) (T : HS), IV T → ob T v1 9 → ob T v2 11 → ob T v3 14 → hN T v3 = 1 → TT v1 v2 T → fI T v1 7 = fI T v2 13 → WH v1 v2 T → kk ≤ 200 + 35 * (c + 1) → nn ≤ 13000 + 8200 * (c + 1) → X23 v1 v2 v3 x kk nn T) (h : LI v1 v2 v3 v4 kk nn S c) : P_L_law_2096 scL scx Q X23 v1 v2 v3 v4 kk nn S := by
  obtain ⟨hI, o1, o2, o3, l3, tp, fa, wh, hv, hk, hn⟩ := h
  unfold P_L_law_2096
  intro x982 ex982
  refine ⟨sc_in (j := 1) hv hc hL ex982 (by omega) (by decide), ?_⟩
  intro x983 ex983
  refine ⟨fun c984 => ?_, fun c984 => ?_⟩
  · unfold P_L_law_2111
    refine ⟨o1, ?_⟩
    refine ⟨by show _ ≤ 601024; omega, by show _ ≤ 7293034; omega, ?_⟩
    refine mn_X9_wetness hI o1 (fun x986 S985 hJ g987 fc988 Kg987 nf1 => ?_)
    have tp := tt_fri tp o1 o2 Kg987 fc988 (by decide) (by decide) (by decide) (by decide)
    have fa := fa_fri fa o1 o2 fc988 (by decide) (by decide)
    have hI := hJ
    have l3 := (gr_len g987 o3).trans l3
    have o1 := gr_ob g987 o1
    have o2 := gr_ob g987 o2
    have o3 := gr_ob g987 o3
    intro _
    intro x989 ex989
    refine ⟨sc_in (j := 1) hv hc hL ex989 (by omega) (by decide), ?_⟩
    intro x990 ex990
    refine ⟨fun c991 => ?_, fun c991 => ?_⟩
    · unfold P_L_law_2130
      refine ⟨o2, ?_⟩
      refine ⟨by show _ ≤ 601024; omega, by show _ ≤ 7293034; omega, ?_⟩
      refine mn_X11_wetness hI o2 (fun x993 S992 hJ g994 fc995 Kg994 nf2 => ?_)
      have tp := tt_fri tp o1 o2 Kg994 fc995 (by decide) (by decide) (by decide) (by decide)
      have fa := fa_fri fa o1 o2 fc995 (by decide) (by decide)
      have wh := wh_set nf1 fc995 (by decide) nf2
      have hI := hJ
      have l3 := (gr_len g994 o3).trans l3
      have o1 := gr_ob g994 o1
      have o2 := gr_ob g994 o2
      have o3 := gr_ob g994 o3
      intro _
      unfold P_L_law_2341
      intro x996 ex996
      have back := hb x996 ex996
      exact back _ _ _ hI o1 o2 o3 l3 tp fa wh (by omega) (by omega)
    · unfold P_L_law_2130
      refine ⟨o2, ?_⟩
      refine ⟨by show _ ≤ 601024; omega, by show _ ≤ 7293034; omega, ?_⟩
      refine mn_X11_wetness hI o2 (fun x998 S997 hJ g999 fc1000 Kg999 nf2 => ?_)
      have tp := tt_fri tp o1 o2 Kg999 fc1000 (by decide) (by decide) (by decide) (by decide)
      have fa := fa_fri fa o1 o2 fc1000 (by decide) (by decide)
      have wh := wh_set nf1 fc1000 (by decide) nf2
      have hI := hJ
      have l3 := (gr_len g999 o3).trans l3
      have o1 := gr_ob g999 o1
      have o2 := gr_ob g999 o2
      have o3 := gr_ob g999 o3
      intro _
      unfold P_L_law_2341
      intro x1001 ex1001
      have back := hb x1001 ex1001
      exact back _ _ _ hI o1 o2 o3 l3 tp fa wh (by omega) (by omega)
  · unfold P_L_law_2111
    refine ⟨o1, ?_⟩
    refine ⟨by show _ ≤ 601024; omega, by show _ ≤ 7293034; omega, ?_⟩
    refine mn_X9_wetness hI o1 (fun x1003 S1002 hJ g1004 fc1005 Kg1004 nf1 => ?_)
    have tp := tt_fri tp o1 o2 Kg1004 fc1005 (by decide) (by decide) (by decide) (by decide)
    have fa := fa_fri fa o1 o2 fc1005 (by decide) (by decide)
    have hI := hJ
    have l3 := (gr_len g1004 o3).trans l3
    have o1 := gr_ob g1004 o1
    have o2 := gr_ob g1004 o2
    have o3 := gr_ob g1004 o3
    intro _
    intro x1006 ex1006
    refine ⟨sc_in (j := 1) hv hc hL ex1006 (by omega) (by decide), ?_⟩
    intro x1007 ex1007
    refine ⟨fun c1008 => ?_, fun c1008 => ?_⟩
    · unfold P_L_law_2130
      refine ⟨o2, ?_⟩
      refine ⟨by show _ ≤ 601024; omega, by show _ ≤ 7293034; omega, ?_⟩
      refine mn_X11_wetness hI o2 (fun x1010 S1009 hJ g1011 fc1012 Kg1011 nf2 => ?_)
      have tp := tt_fri tp o1 o2 Kg1011 fc1012 (by decide) (by decide) (by decide) (by decide)
      have fa := fa_fri fa o1 o2 fc1012 (by decide) (by decide)
      have wh := wh_set nf1 fc1012 (by decide) nf2
      have hI := hJ
      have l3 := (gr_len g1011 o3).trans l3
      have o1 := gr_ob g1011 o1
      have o2 := gr_ob g1011 o2
      have o3 := gr_ob g1011 o3
      intro _
      unfold P_L_law_2341
      intro x1013 ex1013
      have back := hb x1013 ex1013
      exact back _ _ _ hI o1 o2 o3 l3 tp fa wh (by omega) (by omega)
    · unfold P_L_law_2130
      refine ⟨o2, ?_⟩
      refine ⟨by show _ ≤ 601024; omega, by show _ ≤ 7293034; omega, ?_⟩
      refine mn_X11_wetness hI o2 (fun x1015 S1014 hJ g1016 fc1017 Kg1016 nf2 => ?_)
      have tp := tt_fri tp o1 o2 Kg1016 fc1017 (by decide) (by decide) (by decide) (by decide)
      have fa := fa_fri fa o1 o2 fc1017 (by decide) (by decide)
      have wh := wh_set nf1 fc1017 (by decide) nf2
      have hI := hJ
      have l3 := (gr_len g1016 o3).trans l3
      have o1 := gr_ob g1016 o1
      have o2 := gr_ob g1016 o2
      have o3 := gr_ob g1016 o3
      intro _
      unfold P_L_law_2341
      intro x1018 ex1018
      have back := hb x1018 ex1018
      exact back _ _ _ hI o1 o2 o3 l3 tp fa wh (by omega) (by omega)
set_option maxHeartbeats 4000000 in
set_option maxRecDepth 20000 in
theorem a_L_law_2137 {scL : Nat} {scx : Nat → Int32} {Q : Int32 → HS → Prop} {X23 : Nat → Nat → Nat → Int32 → Nat → Nat → HS → Prop} {v1 v2 v3 : Nat} {v4 : Int32} {kk nn : Nat} {S : HS} {c : Nat} (hL : scL ≤ 4096) (hc : 8 * c + 8 ≤ scL) (hb : ∀ x : Int32, x = v4 + (8 : Int32) → ∀ (kk nn : Nat) (T : HS), IV T → ob T v1 9 → ob T v2 11 → ob T v3 14 → hN T v3 = 1 → TT v1 v2 T → fI T v1 7 = fI T v2 13 → WH v1 v2 T → kk ≤ 200 + 35 * (c + 1) → nn ≤ 13000 + 8200 * (c + 1) → X23 v1 v2 v3 x kk nn T) (h : LI v1 v2 v3 v4 kk nn S c) : P_L_law_2137 scL scx Q X23 v1 v2 v3 v4 kk nn S := by
  obtain ⟨hI, o1, o2, o3, l3, tp, fa, wh, hv, hk, hn⟩ := h
  unfold P_L_law_2137
  refine ⟨o1, ?_⟩
  refine ⟨by show _ ≤ 601024; omega, by show _ ≤ 7293034; omega, ?_⟩
  refine mn_X9_soaked hI o1 (fun x1020 S1019 hJ g1021 fc1022 Kg1021 nf1 => ?_)
  have tp := tt_fri tp o1 o2 Kg1021 fc1022 (by decide) (by decide) (by decide) (by decide)
  have fa := fa_fri fa o1 o2 fc1022 (by decide) (by decide)
  have hI := hJ
  have l3 := (gr_len g1021 o3).trans l3
  have o1 := gr_ob g1021 o1
  have o2 := gr_ob g1021 o2
  have o3 := gr_ob g1021 o3
  intro _
  refine ⟨o2, ?_⟩
  refine ⟨by show _ ≤ 601024; omega, by show _ ≤ 7293034; omega, ?_⟩
  refine mn_X11_soaked hI o2 (fun x1024 S1023 hJ g1025 fc1026 Kg1025 nf2 => ?_)
  have tp := tt_fri tp o1 o2 Kg1025 fc1026 (by decide) (by decide) (by decide) (by decide)
  have fa := fa_fri fa o1 o2 fc1026 (by decide) (by decide)
  have wh := wh_set nf1 fc1026 (by decide) nf2
  have hI := hJ
  have l3 := (gr_len g1025 o3).trans l3
  have o1 := gr_ob g1025 o1
  have o2 := gr_ob g1025 o2
  have o3 := gr_ob g1025 o3
  intro _
  unfold P_L_law_2341
  intro x1027 ex1027
  have back := hb x1027 ex1027
  exact back _ _ _ hI o1 o2 o3 l3 tp fa wh (by omega) (by omega)
set_option maxHeartbeats 4000000 in
set_option maxRecDepth 20000 in
theorem a_L_law_2150 {scL : Nat} {scx : Nat → Int32} {Q : Int32 → HS → Prop} {X23 : Nat → Nat → Nat → Int32 → Nat → Nat → HS → Prop} {v1 v2 v3 : Nat} {v4 : Int32} {kk nn : Nat} {S : HS} {c : Nat} (hL : scL ≤ 4096) (hc : 8 * c + 8 ≤ scL) (hb : ∀ x : Int32, x = v4 + (8 : Int32) → ∀ (kk nn : Nat) (T : HS), IV T → ob T v1 9 → ob T v2 11 → ob T v3 14 → hN T v3 = 1 → TT v1 v2 T → fI T v1 7 = fI T v2 13 → WH v1 v2 T → kk ≤ 200 + 35 * (c + 1) → nn ≤ 13000 + 8200 * (c + 1) → X23 v1 v2 v3 x kk nn T) (h : LI v1 v2 v3 v4 kk nn S c) : P_L_law_2150 scL scx Q X23 v1 v2 v3 v4 kk nn S := by
  obtain ⟨hI, o1, o2, o3, l3, tp, fa, wh, hv, hk, hn⟩ := h
  unfold P_L_law_2150
  refine ⟨o1, ?_⟩
  refine ⟨by show _ ≤ 601024; omega, by show _ ≤ 7293034; omega, ?_⟩
  refine mn_X9_undo hI o1 (fun x1029 S1028 hJ g1030 fc1031 _ Kg1030 nf1 => ?_)
  have tp := tt_fri tp o1 o2 Kg1030 fc1031 (by decide) (by decide) (by decide) (by decide)
  have fa := fa_fri fa o1 o2 fc1031 (by decide) (by decide)
  have hI := hJ
  have l3 := (gr_len g1030 o3).trans l3
  have o1 := gr_ob g1030 o1
  have o2 := gr_ob g1030 o2
  have o3 := gr_ob g1030 o3
  intro _ _
  refine ⟨o2, ?_⟩
  refine ⟨by show _ ≤ 601024; omega, by show _ ≤ 7293034; omega, ?_⟩
  refine mn_X11_undo hI o2 (fun x1033 S1032 hJ g1034 fc1035 _ Kg1034 nf2 => ?_)
  have tp := tt_fri tp o1 o2 Kg1034 fc1035 (by decide) (by decide) (by decide) (by decide)
  have fa := fa_fri fa o1 o2 fc1035 (by decide) (by decide)
  have wh := wh_set nf1 fc1035 (by decide) nf2
  have hI := hJ
  have l3 := (gr_len g1034 o3).trans l3
  have o1 := gr_ob g1034 o1
  have o2 := gr_ob g1034 o2
  have o3 := gr_ob g1034 o3
  intro _ _
  unfold P_L_law_2341
  intro x1036 ex1036
  have back := hb x1036 ex1036
  exact back _ _ _ hI o1 o2 o3 l3 tp fa wh (by omega) (by omega)
set_option maxHeartbeats 4000000 in
set_option maxRecDepth 20000 in
theorem a_L_law_2163 {scL : Nat} {scx : Nat → Int32} {Q : Int32 → HS → Prop} {X23 : Nat → Nat → Nat → Int32 → Nat → Nat → HS → Prop} {v1 v2 v3 : Nat} {v4 : Int32} {kk nn : Nat} {S : HS} {c : Nat} (hL : scL ≤ 4096) (hc : 8 * c + 8 ≤ scL) (hb : ∀ x : Int32, x = v4 + (8 : Int32) → ∀ (kk nn : Nat) (T : HS), IV T → ob T v1 9 → ob T v2 11 → ob T v3 14 → hN T v3 = 1 → TT v1 v2 T → fI T v1 7 = fI T v2 13 → WH v1 v2 T → kk ≤ 200 + 35 * (c + 1) → nn ≤ 13000 + 8200 * (c + 1) → X23 v1 v2 v3 x kk nn T) (h : LI v1 v2 v3 v4 kk nn S c) : P_L_law_2163 scL scx Q X23 v1 v2 v3 v4 kk nn S := by
  obtain ⟨hI, o1, o2, o3, l3, tp, fa, wh, hv, hk, hn⟩ := h
  unfold P_L_law_2163
  refine ⟨o1, ?_⟩
  refine ⟨by show _ ≤ 601024; omega, by show _ ≤ 7293034; omega, ?_⟩
  refine mn_X9_mark hI o1 (fun x1038 S1037 hJ g1039 fc1040 Kg1039 nf1 => ?_)
  have tp := tt_fri tp o1 o2 Kg1039 fc1040 (by decide) (by decide) (by decide) (by decide)
  have fa := fa_fri fa o1 o2 fc1040 (by decide) (by decide)
  have hI := hJ
  have l3 := (gr_len g1039 o3).trans l3
  have o1 := gr_ob g1039 o1
  have o2 := gr_ob g1039 o2
  have o3 := gr_ob g1039 o3
  intro _
  refine ⟨o2, ?_⟩
  refine ⟨by show _ ≤ 601024; omega, by show _ ≤ 7293034; omega, ?_⟩
  refine mn_X11_mark hI o2 (fun x1042 S1041 hJ g1043 fc1044 Kg1043 nf2 => ?_)
  have tp := tt_fri tp o1 o2 Kg1043 fc1044 (by decide) (by decide) (by decide) (by decide)
  have fa := fa_fri fa o1 o2 fc1044 (by decide) (by decide)
  have wh := wh_set nf1 fc1044 (by decide) nf2
  have hI := hJ
  have l3 := (gr_len g1043 o3).trans l3
  have o1 := gr_ob g1043 o1
  have o2 := gr_ob g1043 o2
  have o3 := gr_ob g1043 o3
  intro _
  unfold P_L_law_2341
  intro x1045 ex1045
  have back := hb x1045 ex1045
  exact back _ _ _ hI o1 o2 o3 l3 tp fa wh (by omega) (by omega)
set_option maxHeartbeats 4000000 in
set_option maxRecDepth 20000 in
theorem a_L_law_2176 {scL : Nat} {scx : Nat → Int32} {Q : Int32 → HS → Prop} {X23 : Nat → Nat → Nat → Int32 → Nat → Nat → HS → Prop} {v1 v2 v3 : Nat} {v4 : Int32} {kk nn : Nat} {S : HS} {c : Nat} (hL : scL ≤ 4096) (hc : 8 * c + 8 ≤ scL) (hb : ∀ x : Int32, x = v4 + (8 : Int32) → ∀ (kk nn : Nat) (T : HS), IV T → ob T v1 9 → ob T v2 11 → ob T v3 14 → hN T v3 = 1 → TT v1 v2 T → fI T v1 7 = fI T v2 13 → WH v1 v2 T → kk ≤ 200 + 35 * (c + 1) → nn ≤ 13000 + 8200 * (c + 1) → X23 v1 v2 v3 x kk nn T) (h : LI v1 v2 v3 v4 kk nn S c) : P_L_law_2176 scL scx Q X23 v1 v2 v3 v4 kk nn S := by
  obtain ⟨hI, o1, o2, o3, l3, tp, fa, wh, hv, hk, hn⟩ := h
  unfold P_L_law_2176
  intro x1046 ex1046
  refine ⟨sc_in (j := 1) hv hc hL ex1046 (by omega) (by decide), ?_⟩
  intro x1047 ex1047
  refine ⟨o1, ?_⟩
  refine ⟨by show _ ≤ 601024; omega, by show _ ≤ 7293034; omega, ?_⟩
  refine mn_X9_back hI o1 (fun x1049 S1048 hJ g1050 fc1051 _ Kg1050 nf1 => ?_)
  have tp := tt_fri tp o1 o2 Kg1050 fc1051 (by decide) (by decide) (by decide) (by decide)
  have fa := fa_fri fa o1 o2 fc1051 (by decide) (by decide)
  have hI := hJ
  have l3 := (gr_len g1050 o3).trans l3
  have o1 := gr_ob g1050 o1
  have o2 := gr_ob g1050 o2
  have o3 := gr_ob g1050 o3
  intro _ _
  intro x1052 ex1052
  refine ⟨sc_in (j := 1) hv hc hL ex1052 (by omega) (by decide), ?_⟩
  intro x1053 ex1053
  refine ⟨o2, ?_⟩
  refine ⟨by show _ ≤ 601024; omega, by show _ ≤ 7293034; omega, ?_⟩
  refine mn_X11_back hI o2 (fun x1055 S1054 hJ g1056 fc1057 _ Kg1056 nf2 => ?_)
  have tp := tt_fri tp o1 o2 Kg1056 fc1057 (by decide) (by decide) (by decide) (by decide)
  have fa := fa_fri fa o1 o2 fc1057 (by decide) (by decide)
  have wh := wh_set nf1 fc1057 (by decide) nf2
  have hI := hJ
  have l3 := (gr_len g1056 o3).trans l3
  have o1 := gr_ob g1056 o1
  have o2 := gr_ob g1056 o2
  have o3 := gr_ob g1056 o3
  intro _ _
  unfold P_L_law_2341
  intro x1058 ex1058
  have back := hb x1058 ex1058
  exact back _ _ _ hI o1 o2 o3 l3 tp fa wh (by omega) (by omega)
set_option maxHeartbeats 4000000 in
set_option maxRecDepth 20000 in
theorem a_L_law_2201 {scL : Nat} {scx : Nat → Int32} {Q : Int32 → HS → Prop} {X23 : Nat → Nat → Nat → Int32 → Nat → Nat → HS → Prop} {v1 v2 v3 : Nat} {v4 : Int32} {kk nn : Nat} {S : HS} {c : Nat} (hL : scL ≤ 4096) (hc : 8 * c + 8 ≤ scL) (hb : ∀ x : Int32, x = v4 + (8 : Int32) → ∀ (kk nn : Nat) (T : HS), IV T → ob T v1 9 → ob T v2 11 → ob T v3 14 → hN T v3 = 1 → TT v1 v2 T → fI T v1 7 = fI T v2 13 → WH v1 v2 T → kk ≤ 200 + 35 * (c + 1) → nn ≤ 13000 + 8200 * (c + 1) → X23 v1 v2 v3 x kk nn T) (h : LI v1 v2 v3 v4 kk nn S c) : P_L_law_2201 scL scx Q X23 v1 v2 v3 v4 kk nn S := by
  obtain ⟨hI, o1, o2, o3, l3, tp, fa, wh, hv, hk, hn⟩ := h
  unfold P_L_law_2201
  intro x1059 ex1059
  refine ⟨sc_in (j := 1) hv hc hL ex1059 (by omega) (by decide), ?_⟩
  intro x1060 ex1060
  intro x1061 ex1061
  refine ⟨sc_in (j := 2) hv hc hL ex1061 (by omega) (by decide), ?_⟩
  intro x1062 ex1062
  refine ⟨o1, ?_⟩
  refine ⟨by show _ ≤ 601024; omega, by show _ ≤ 7293034; omega, ?_⟩
  refine mn_X9_walker hI o1 (fun x1064 S1063 hJ g1065 fc1066 Kg1065 nf1 => ?_)
  have tp := tt_fri tp o1 o2 Kg1065 fc1066 (by decide) (by decide) (by decide) (by decide)
  have fa := fa_fri fa o1 o2 fc1066 (by decide) (by decide)
  have hI := hJ
  have l3 := (gr_len g1065 o3).trans l3
  have o1 := gr_ob g1065 o1
  have o2 := gr_ob g1065 o2
  have o3 := gr_ob g1065 o3
  intro _
  intro x1067 ex1067
  refine ⟨sc_in (j := 1) hv hc hL ex1067 (by omega) (by decide), ?_⟩
  intro x1068 ex1068
  intro x1069 ex1069
  refine ⟨sc_in (j := 2) hv hc hL ex1069 (by omega) (by decide), ?_⟩
  intro x1070 ex1070
  refine ⟨o2, ?_⟩
  refine ⟨by show _ ≤ 601024; omega, by show _ ≤ 7293034; omega, ?_⟩
  refine mn_X11_walker hI o2 (fun x1072 S1071 hJ g1073 fc1074 Kg1073 nf2 => ?_)
  have tp := tt_fri tp o1 o2 Kg1073 fc1074 (by decide) (by decide) (by decide) (by decide)
  have fa := fa_fri fa o1 o2 fc1074 (by decide) (by decide)
  have wh := wh_set nf1 fc1074 (by decide) nf2
  have hI := hJ
  have l3 := (gr_len g1073 o3).trans l3
  have o1 := gr_ob g1073 o1
  have o2 := gr_ob g1073 o2
  have o3 := gr_ob g1073 o3
  intro _
  unfold P_L_law_2341
  intro x1075 ex1075
  have back := hb x1075 ex1075
  exact back _ _ _ hI o1 o2 o3 l3 tp fa wh (by omega) (by omega)
set_option maxHeartbeats 4000000 in
set_option maxRecDepth 20000 in
theorem a_L_law_2238 {scL : Nat} {scx : Nat → Int32} {Q : Int32 → HS → Prop} {X23 : Nat → Nat → Nat → Int32 → Nat → Nat → HS → Prop} {v1 v2 v3 : Nat} {v4 : Int32} {kk nn : Nat} {S : HS} {c : Nat} (hL : scL ≤ 4096) (hc : 8 * c + 8 ≤ scL) (hb : ∀ x : Int32, x = v4 + (8 : Int32) → ∀ (kk nn : Nat) (T : HS), IV T → ob T v1 9 → ob T v2 11 → ob T v3 14 → hN T v3 = 1 → TT v1 v2 T → fI T v1 7 = fI T v2 13 → WH v1 v2 T → kk ≤ 200 + 35 * (c + 1) → nn ≤ 13000 + 8200 * (c + 1) → X23 v1 v2 v3 x kk nn T) (h : LI v1 v2 v3 v4 kk nn S c) : P_L_law_2238 scL scx Q X23 v1 v2 v3 v4 kk nn S := by
  obtain ⟨hI, o1, o2, o3, l3, tp, fa, wh, hv, hk, hn⟩ := h
  unfold P_L_law_2238
  intro x1076 ex1076
  refine ⟨sc_in (j := 1) hv hc hL ex1076 (by omega) (by decide), ?_⟩
  intro x1077 ex1077
  intro x1078 ex1078
  refine ⟨sc_in (j := 2) hv hc hL ex1078 (by omega) (by decide), ?_⟩
  intro x1079 ex1079
  refine ⟨o1, ?_⟩
  refine ⟨by show _ ≤ 601024; omega, by show _ ≤ 7293034; omega, ?_⟩
  refine mn_X9_road hI o1 (fun x1081 S1080 hJ g1082 fc1083 Kg1082 nf1 => ?_)
  have tp := tt_fri tp o1 o2 Kg1082 fc1083 (by decide) (by decide) (by decide) (by decide)
  have fa := fa_fri fa o1 o2 fc1083 (by decide) (by decide)
  have hI := hJ
  have l3 := (gr_len g1082 o3).trans l3
  have o1 := gr_ob g1082 o1
  have o2 := gr_ob g1082 o2
  have o3 := gr_ob g1082 o3
  intro _
  intro x1084 ex1084
  refine ⟨sc_in (j := 1) hv hc hL ex1084 (by omega) (by decide), ?_⟩
  intro x1085 ex1085
  intro x1086 ex1086
  refine ⟨sc_in (j := 2) hv hc hL ex1086 (by omega) (by decide), ?_⟩
  intro x1087 ex1087
  refine ⟨o2, ?_⟩
  refine ⟨by show _ ≤ 601024; omega, by show _ ≤ 7293034; omega, ?_⟩
  refine mn_X11_road hI o2 (fun x1089 S1088 hJ g1090 fc1091 Kg1090 nf2 => ?_)
  have tp := tt_fri tp o1 o2 Kg1090 fc1091 (by decide) (by decide) (by decide) (by decide)
  have fa := fa_fri fa o1 o2 fc1091 (by decide) (by decide)
  have wh := wh_set nf1 fc1091 (by decide) nf2
  have hI := hJ
  have l3 := (gr_len g1090 o3).trans l3
  have o1 := gr_ob g1090 o1
  have o2 := gr_ob g1090 o2
  have o3 := gr_ob g1090 o3
  intro _
  unfold P_L_law_2341
  intro x1092 ex1092
  have back := hb x1092 ex1092
  exact back _ _ _ hI o1 o2 o3 l3 tp fa wh (by omega) (by omega)
set_option maxHeartbeats 4000000 in
set_option maxRecDepth 20000 in
theorem a_L_law_2275 {scL : Nat} {scx : Nat → Int32} {Q : Int32 → HS → Prop} {X23 : Nat → Nat → Nat → Int32 → Nat → Nat → HS → Prop} {v1 v2 v3 : Nat} {v4 : Int32} {kk nn : Nat} {S : HS} {c : Nat} (hL : scL ≤ 4096) (hc : 8 * c + 8 ≤ scL) (hb : ∀ x : Int32, x = v4 + (8 : Int32) → ∀ (kk nn : Nat) (T : HS), IV T → ob T v1 9 → ob T v2 11 → ob T v3 14 → hN T v3 = 1 → TT v1 v2 T → fI T v1 7 = fI T v2 13 → WH v1 v2 T → kk ≤ 200 + 35 * (c + 1) → nn ≤ 13000 + 8200 * (c + 1) → X23 v1 v2 v3 x kk nn T) (h : LI v1 v2 v3 v4 kk nn S c) : P_L_law_2275 scL scx Q X23 v1 v2 v3 v4 kk nn S := by
  obtain ⟨hI, o1, o2, o3, l3, tp, fa, wh, hv, hk, hn⟩ := h
  unfold P_L_law_2275
  intro x1093 ex1093
  refine ⟨sc_in (j := 1) hv hc hL ex1093 (by omega) (by decide), ?_⟩
  intro x1094 ex1094
  refine ⟨by show _ ≤ 601024; omega, by show _ ≤ 7293034; omega, hI, o1, o3, l3, fun x1096 S1095 hJ g1097 fc1098 KL _ => ?_⟩
  have tp := tt_fri tp o1 o2 KL fc1098 (by decide) (by decide) (by decide) (by decide)
  have fa := fa_fri fa o1 o2 fc1098 (by decide) (by decide)
  have wh := wh_fri wh o1 o2 fc1098 (by decide) (by decide) (by decide)
  have hI := hJ
  have l3 := (gr_len g1097 o3).trans l3
  have o1 := gr_ob g1097 o1
  have o2 := gr_ob g1097 o2
  have o3 := gr_ob g1097 o3
  intro x1099 ex1099
  refine ⟨sc_in (j := 1) hv hc hL ex1099 (by omega) (by decide), ?_⟩
  intro x1100 ex1100
  refine ⟨o2, ?_⟩
  refine ⟨by show _ ≤ 601024; omega, by show _ ≤ 7293034; omega, ?_⟩
  refine mk_X11_led hI o2 (fun x1102 S1101 hJ g1103 fc1104 Kg1103 => ?_)
  have tp := tt_fri tp o1 o2 Kg1103 fc1104 (by decide) (by decide) (by decide) (by decide)
  have fa := fa_fri fa o1 o2 fc1104 (by decide) (by decide)
  have wh := wh_fri wh o1 o2 fc1104 (by decide) (by decide) (by decide)
  have hI := hJ
  have l3 := (gr_len g1103 o3).trans l3
  have o1 := gr_ob g1103 o1
  have o2 := gr_ob g1103 o2
  have o3 := gr_ob g1103 o3
  intro _
  unfold P_L_law_2341
  intro x1105 ex1105
  have back := hb x1105 ex1105
  exact back _ _ _ hI o1 o2 o3 l3 tp fa wh (by omega) (by omega)
set_option maxHeartbeats 4000000 in
set_option maxRecDepth 20000 in
theorem a_L_law_2303 {scL : Nat} {scx : Nat → Int32} {Q : Int32 → HS → Prop} {X23 : Nat → Nat → Nat → Int32 → Nat → Nat → HS → Prop} {v1 v2 v3 : Nat} {v4 : Int32} {kk nn : Nat} {S : HS} {c : Nat} (hL : scL ≤ 4096) (hc : 8 * c + 8 ≤ scL) (hb : ∀ x : Int32, x = v4 + (8 : Int32) → ∀ (kk nn : Nat) (T : HS), IV T → ob T v1 9 → ob T v2 11 → ob T v3 14 → hN T v3 = 1 → TT v1 v2 T → fI T v1 7 = fI T v2 13 → WH v1 v2 T → kk ≤ 200 + 35 * (c + 1) → nn ≤ 13000 + 8200 * (c + 1) → X23 v1 v2 v3 x kk nn T) (h : LI v1 v2 v3 v4 kk nn S c) : P_L_law_2303 scL scx Q X23 v1 v2 v3 v4 kk nn S := by
  obtain ⟨hI, o1, o2, o3, l3, tp, fa, wh, hv, hk, hn⟩ := h
  unfold P_L_law_2303
  intro x1106 ex1106
  refine ⟨sc_in (j := 1) hv hc hL ex1106 (by omega) (by decide), ?_⟩
  intro x1107 ex1107
  refine ⟨o1, ?_⟩
  refine ⟨by show _ ≤ 601024; omega, by show _ ≤ 7293034; omega, ?_⟩
  refine m_X9_size hI o1 (fun x1109 S1108 hJ g1110 pp => ?_)
  subst pp
  intro _
  intro x1112 ex1112
  refine ⟨sc_in (j := 1) hv hc hL ex1112 (by omega) (by decide), ?_⟩
  intro x1113 ex1113
  refine ⟨o2, ?_⟩
  refine ⟨by show _ ≤ 601024; omega, by show _ ≤ 7293034; omega, ?_⟩
  refine mk_X11_size hI o2 (fun x1115 S1114 hJ g1116 fc1117 Kg1116 => ?_)
  have tp := tt_fri tp o1 o2 Kg1116 fc1117 (by decide) (by decide) (by decide) (by decide)
  have fa := fa_fri fa o1 o2 fc1117 (by decide) (by decide)
  have wh := wh_fri wh o1 o2 fc1117 (by decide) (by decide) (by decide)
  have hI := hJ
  have l3 := (gr_len g1116 o3).trans l3
  have o1 := gr_ob g1116 o1
  have o2 := gr_ob g1116 o2
  have o3 := gr_ob g1116 o3
  intro _
  unfold P_L_law_2341
  intro x1118 ex1118
  have back := hb x1118 ex1118
  exact back _ _ _ hI o1 o2 o3 l3 tp fa wh (by omega) (by omega)
set_option maxHeartbeats 4000000 in
set_option maxRecDepth 20000 in
theorem a_L_law_2328 {scL : Nat} {scx : Nat → Int32} {Q : Int32 → HS → Prop} {X23 : Nat → Nat → Nat → Int32 → Nat → Nat → HS → Prop} {v1 v2 v3 : Nat} {v4 : Int32} {kk nn : Nat} {S : HS} {c : Nat} (hL : scL ≤ 4096) (hc : 8 * c + 8 ≤ scL) (hb : ∀ x : Int32, x = v4 + (8 : Int32) → ∀ (kk nn : Nat) (T : HS), IV T → ob T v1 9 → ob T v2 11 → ob T v3 14 → hN T v3 = 1 → TT v1 v2 T → fI T v1 7 = fI T v2 13 → WH v1 v2 T → kk ≤ 200 + 35 * (c + 1) → nn ≤ 13000 + 8200 * (c + 1) → X23 v1 v2 v3 x kk nn T) (h : LI v1 v2 v3 v4 kk nn S c) : P_L_law_2328 scL scx Q X23 v1 v2 v3 v4 kk nn S := by
  obtain ⟨hI, o1, o2, o3, l3, tp, fa, wh, hv, hk, hn⟩ := h
  unfold P_L_law_2328
  refine ⟨o1, ?_⟩
  refine ⟨by show _ ≤ 601024; omega, by show _ ≤ 7293034; omega, ?_⟩
  refine m_X9_trouble hI o1 (fun x1120 S1119 hJ g1121 pp => ?_)
  subst pp
  intro _
  refine ⟨o2, ?_⟩
  refine ⟨by show _ ≤ 601024; omega, by show _ ≤ 7293034; omega, ?_⟩
  refine mk_X11_trouble hI o2 (fun x1124 S1123 hJ g1125 fc1126 Kg1125 => ?_)
  have tp := tt_fri tp o1 o2 Kg1125 fc1126 (by decide) (by decide) (by decide) (by decide)
  have fa := fa_fri fa o1 o2 fc1126 (by decide) (by decide)
  have wh := wh_fri wh o1 o2 fc1126 (by decide) (by decide) (by decide)
  have hI := hJ
  have l3 := (gr_len g1125 o3).trans l3
  have o1 := gr_ob g1125 o1
  have o2 := gr_ob g1125 o2
  have o3 := gr_ob g1125 o3
  intro _
  unfold P_L_law_2341
  intro x1127 ex1127
  have back := hb x1127 ex1127
  exact back _ _ _ hI o1 o2 o3 l3 tp fa wh (by omega) (by omega)
set_option maxHeartbeats 4000000 in
set_option maxRecDepth 20000 in
theorem a_L_law_2341 {scL : Nat} {scx : Nat → Int32} {Q : Int32 → HS → Prop} {X23 : Nat → Nat → Nat → Int32 → Nat → Nat → HS → Prop} {v1 v2 v3 : Nat} {v4 : Int32} {kk nn : Nat} {S : HS} {c : Nat} (hL : scL ≤ 4096) (hc : 8 * c + 8 ≤ scL) (hb : ∀ x : Int32, x = v4 + (8 : Int32) → ∀ (kk nn : Nat) (T : HS), IV T → ob T v1 9 → ob T v2 11 → ob T v3 14 → hN T v3 = 1 → TT v1 v2 T → fI T v1 7 = fI T v2 13 → WH v1 v2 T → kk ≤ 200 + 35 * (c + 1) → nn ≤ 13000 + 8200 * (c + 1) → X23 v1 v2 v3 x kk nn T) (h : LI v1 v2 v3 v4 kk nn S c) : P_L_law_2341 scL scx Q X23 v1 v2 v3 v4 kk nn S := by
  obtain ⟨hI, o1, o2, o3, l3, tp, fa, wh, hv, hk, hn⟩ := h
  unfold P_L_law_2341
  intro x1128 ex1128
  have back := hb x1128 ex1128
  exact back _ _ _ hI o1 o2 o3 l3 tp fa wh (by omega) (by omega)
