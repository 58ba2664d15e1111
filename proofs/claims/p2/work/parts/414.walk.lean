def rm_X11_walker : Room := { frames := 1, cells := 0, slots := 0, locals := 22 }
def P_X11_walker_23 (Q : Int32 → HS → Prop) (v0 : Nat) (S : HS) : Prop := ob S v0 11 ∧ (P_X11_refused v0 (1 : Int32) (fun x3 S1 => Gr S S1 → (Q x3 S1)) S)
set_option maxRecDepth 20000 in
set_option maxHeartbeats 4000000 in
theorem T_X11_walker_23 {X : CX} {Q : Int32 → HS → Prop} (C : Cx X cX11_walker RX11 3 rm_X11_walker) (E : ReI X rm_X11_walker Q) (ht : (xh X).sig.returnType = (some .int)) (hn : (xh X).name = yX11_walker.name) {v0 : Nat} {S : HS} (h : P_X11_walker_23 Q v0 S) : WS X 3 0 0 23 [(0, .ref v0)] [] S := by
  refine r_aload_n (pc := 23) C dX11_walker_23 0 rfl ?_
  refine r_iconst (pc := 24) C (v := (1 : Int32)) dX11_walker_24 (by decide) ?_
  obtain ⟨o_v0, h⟩ := h
  refine r_callVi0 (pc := 25) C (rest := []) (a := v0) o_v0 [.int (1 : Int32)] yV_X11_refused g_1250 (c_X11_refused h) dX11_walker_25 rfl rfl (by decide) ⟨by decide, by decide⟩ ⟨by decide, by decide⟩ ⟨rfl, rfl⟩ (fun x3 S1 h g2 => ?_)
  have h := h g2
  have o_v0 := gr_ob g2 o_v0
  exact r_iret (pc := 28) C E ht dX11_walker_28 (by decide) (by decide) h
def P_X11_walker_0 (Q : Int32 → HS → Prop) (v0 : Nat) (v1 : Int32) (v2 : Int32) (S : HS) : Prop := ob S v0 11 ∧ (P_X11_isWalker v0 v1 (fun x3 S1 => Gr (sI S v0 0 (0 : Int32)) S1 → bl x3 → (((x3 = 0) → (P_X11_walker_23 Q v0 S1)) ∧ ((¬ x3 = 0) → (P_X11_in v2 (0 : Int32) (6 : Int32) (fun x7 S5 => Gr S1 S5 → bl x7 → (((¬ x7 = 0) → ((v2.toInt < 0 ∨ 5 < v2.toInt → (∃ a10 : Nat, fR S5 v0 3 = some a10 ∧ (ob S5 a10 10 ∧ (∃ a11 : Nat, fR S5 a10 25 = some a11 ∧ (ob S5 a11 13 ∧ (vp_in v1 (hN S5 a11) ∧ ∀ x13 : Int32, x13 = fI S5 a11 v1.toNatClampNeg → (P_X11_good v0 x13 (fun x16 S14 => Gr S5 S14 → (Q x16 S14)) S5))))))) ∧ (v2.toInt = 0 → (∃ a17 : Nat, fR S5 v0 3 = some a17 ∧ (ob S5 a17 10 ∧ (∃ a18 : Nat, fR S5 a17 19 = some a18 ∧ (ob S5 a18 13 ∧ (vp_in v1 (hN S5 a18) ∧ ∀ x20 : Int32, x20 = fI S5 a18 v1.toNatClampNeg → (P_X11_good v0 x20 (fun x23 S21 => Gr S5 S21 → (Q x23 S21)) S5))))))) ∧ (v2.toInt = 1 → (∃ a24 : Nat, fR S5 v0 3 = some a24 ∧ (ob S5 a24 10 ∧ (∃ a25 : Nat, fR S5 a24 20 = some a25 ∧ (ob S5 a25 13 ∧ (vp_in v1 (hN S5 a25) ∧ ∀ x27 : Int32, x27 = fI S5 a25 v1.toNatClampNeg → (P_X11_good v0 x27 (fun x30 S28 => Gr S5 S28 → (Q x30 S28)) S5))))))) ∧ (v2.toInt = 2 → (∃ a31 : Nat, fR S5 v0 3 = some a31 ∧ (ob S5 a31 10 ∧ (∃ a32 : Nat, fR S5 a31 21 = some a32 ∧ (ob S5 a32 13 ∧ (vp_in v1 (hN S5 a32) ∧ ∀ x34 : Int32, x34 = fI S5 a32 v1.toNatClampNeg → (P_X11_good v0 x34 (fun x37 S35 => Gr S5 S35 → (Q x37 S35)) S5))))))) ∧ (v2.toInt = 3 → (∃ a38 : Nat, fR S5 v0 3 = some a38 ∧ (ob S5 a38 10 ∧ (∃ a39 : Nat, fR S5 a38 22 = some a39 ∧ (ob S5 a39 13 ∧ (vp_in v1 (hN S5 a39) ∧ ∀ x41 : Int32, x41 = fI S5 a39 v1.toNatClampNeg → (P_X11_good v0 x41 (fun x44 S42 => Gr S5 S42 → (Q x44 S42)) S5))))))) ∧ (v2.toInt = 4 → (∃ a45 : Nat, fR S5 v0 3 = some a45 ∧ (ob S5 a45 10 ∧ (∃ a46 : Nat, fR S5 a45 23 = some a46 ∧ (ob S5 a46 13 ∧ (vp_in v1 (hN S5 a46) ∧ ∀ x48 : Int32, x48 = fI S5 a46 v1.toNatClampNeg → (P_X11_good v0 x48 (fun x51 S49 => Gr S5 S49 → (Q x51 S49)) S5))))))) ∧ (v2.toInt = 5 → (∃ a52 : Nat, fR S5 v0 3 = some a52 ∧ (ob S5 a52 10 ∧ (∃ a53 : Nat, fR S5 a52 24 = some a53 ∧ (ob S5 a53 13 ∧ (vp_in v1 (hN S5 a53) ∧ ∀ x55 : Int32, x55 = fI S5 a53 v1.toNatClampNeg → (P_X11_good v0 x55 (fun x58 S56 => Gr S5 S56 → (Q x58 S56)) S5))))))))) ∧ ((x7 = 0) → (P_X11_walker_23 Q v0 S5)))) S1)))) (sI S v0 0 (0 : Int32)))
set_option maxRecDepth 20000 in
set_option maxHeartbeats 4000000 in
theorem T_X11_walker_0 {X : CX} {Q : Int32 → HS → Prop} (C : Cx X cX11_walker RX11 3 rm_X11_walker) (E : ReI X rm_X11_walker Q) (ht : (xh X).sig.returnType = (some .int)) (hn : (xh X).name = yX11_walker.name) {v0 : Nat} {v1 : Int32} {v2 : Int32} {S : HS} (h : P_X11_walker_0 Q v0 v1 v2 S) : WS X 3 0 0 0 [(0, .ref v0), (1, .int v1), (2, .int v2)] [] S := by
  refine r_aload_n (pc := 0) C dX11_walker_0 0 rfl ?_
  refine r_iconst (pc := 1) C (v := (0 : Int32)) dX11_walker_1 (by decide) ?_
  obtain ⟨o_v0, h⟩ := h
  refine r_puti (pc := 2) C pfL_X11_40 dX11_walker_2 o_v0 ?_
  refine r_aload_n (pc := 5) C dX11_walker_5 0 rfl ?_
  refine r_iload_n (pc := 6) C dX11_walker_6 1 rfl ?_
  refine r_callVi0 (pc := 7) C (rest := []) (a := v0) o_v0 [.int v1] yV_X11_isWalker g_1538 (c_X11_isWalker h) dX11_walker_7 rfl rfl (by decide) ⟨by decide, by decide⟩ ⟨by decide, by decide⟩ ⟨rfl, rfl⟩ (fun x3 S1 h g2 => ?_)
  have bx3 := h.1
  have h := h.2 g2 bx3
  have o_v0 := gr_ob g2 o_v0
  refine r_if_eq (pc := 10) C (tgt := 23) dX11_walker_10 (by decide) (fun c4 => ?_) (fun c4 => ?_)
  · have h := h.1 c4
    exact r_sub [0] rfl (T_X11_walker_23 C E ht hn h)
  · have h := h.2 c4
    refine r_iload_n (pc := 13) C dX11_walker_13 2 rfl ?_
    refine r_iconst (pc := 14) C (v := (0 : Int32)) dX11_walker_14 (by decide) ?_
    refine r_bipush (pc := 15) C (v := (6 : Int32)) dX11_walker_15 (by decide) ?_
    refine r_callSi0 (pc := 17) C (rest := []) rfl [.int v2, .int (0 : Int32), .int (6 : Int32)] yS_X11_in g_1434 (c_X11_in h) dX11_walker_17 rfl rfl (by decide) ⟨by decide, by decide⟩ ⟨by decide, by decide⟩ ⟨rfl, rfl⟩ (fun x7 S5 h g6 => ?_)
    have bx7 := h.1
    have h := h.2 g6 bx7
    have o_v0 := gr_ob g6 o_v0
    refine r_if_ne (pc := 20) C (tgt := 29) dX11_walker_20 (by decide) (fun c8 => ?_) (fun c8 => ?_)
    · have h := h.1 c8
      refine r_iload_n (pc := 29) C dX11_walker_29 2 rfl ?_
      refine r_table (pc := 30) C (tgt := 152) dX11_walker_30 (by decide) (fun c9 => ?_) (fun j hj hx => ?_)
      · have h := h.1 c9
        refine r_aload_n (pc := 152) C dX11_walker_152 0 rfl ?_
        refine r_aload_n (pc := 153) C dX11_walker_153 0 rfl ?_
        obtain ⟨a10, ea10, h⟩ := h
        refine r_getr (pc := 154) C fL_X11_338 dX11_walker_154 o_v0 ea10 ?_
        obtain ⟨o_a10, h⟩ := h
        obtain ⟨a11, ea11, h⟩ := h
        refine r_getNr (pc := 157) C fN_X11_320 dX11_walker_157 o_a10 ea11 ?_
        refine r_iload_n (pc := 160) C dX11_walker_160 1 rfl ?_
        obtain ⟨o_a11, h⟩ := h
        obtain ⟨i12, h⟩ := h
        refine r_iald (pc := 161) C dX11_walker_161 o_a11 i12 ?_
        refine r_topi (fun x13 ex13 => ?_)
        have h := h x13 ex13
        refine r_callVi0 (pc := 162) C (rest := []) (a := v0) o_v0 [.int x13] yV_X11_good g_1518 (c_X11_good h) dX11_walker_162 rfl rfl (by decide) ⟨by decide, by decide⟩ ⟨by decide, by decide⟩ ⟨rfl, rfl⟩ (fun x16 S14 h g15 => ?_)
        have h := h g15
        have o_a10 := gr_ob g15 o_a10
        have o_a11 := gr_ob g15 o_a11
        have o_v0 := gr_ob g15 o_v0
        exact r_iret (pc := 165) C E ht dX11_walker_165 (by decide) (by decide) h
      · match j, hj, hx with
        | 0, _, hx =>
          refine ⟨38, 68, rfl, by decide, ?_⟩
          have h := h.2.1 (by simpa using hx)
          refine r_aload_n (pc := 68) C dX11_walker_68 0 rfl ?_
          refine r_aload_n (pc := 69) C dX11_walker_69 0 rfl ?_
          obtain ⟨a17, ea17, h⟩ := h
          refine r_getr (pc := 70) C fL_X11_338 dX11_walker_70 o_v0 ea17 ?_
          obtain ⟨o_a17, h⟩ := h
          obtain ⟨a18, ea18, h⟩ := h
          refine r_getNr (pc := 73) C fN_X11_302 dX11_walker_73 o_a17 ea18 ?_
          refine r_iload_n (pc := 76) C dX11_walker_76 1 rfl ?_
          obtain ⟨o_a18, h⟩ := h
          obtain ⟨i19, h⟩ := h
          refine r_iald (pc := 77) C dX11_walker_77 o_a18 i19 ?_
          refine r_topi (fun x20 ex20 => ?_)
          have h := h x20 ex20
          refine r_callVi0 (pc := 78) C (rest := []) (a := v0) o_v0 [.int x20] yV_X11_good g_1518 (c_X11_good h) dX11_walker_78 rfl rfl (by decide) ⟨by decide, by decide⟩ ⟨by decide, by decide⟩ ⟨rfl, rfl⟩ (fun x23 S21 h g22 => ?_)
          have h := h g22
          have o_a17 := gr_ob g22 o_a17
          have o_a18 := gr_ob g22 o_a18
          have o_v0 := gr_ob g22 o_v0
          exact r_iret (pc := 81) C E ht dX11_walker_81 (by decide) (by decide) h
        | 1, _, hx =>
          refine ⟨52, 82, rfl, by decide, ?_⟩
          have h := h.2.2.1 (by simpa using hx)
          refine r_aload_n (pc := 82) C dX11_walker_82 0 rfl ?_
          refine r_aload_n (pc := 83) C dX11_walker_83 0 rfl ?_
          obtain ⟨a24, ea24, h⟩ := h
          refine r_getr (pc := 84) C fL_X11_338 dX11_walker_84 o_v0 ea24 ?_
          obtain ⟨o_a24, h⟩ := h
          obtain ⟨a25, ea25, h⟩ := h
          refine r_getNr (pc := 87) C fN_X11_305 dX11_walker_87 o_a24 ea25 ?_
          refine r_iload_n (pc := 90) C dX11_walker_90 1 rfl ?_
          obtain ⟨o_a25, h⟩ := h
          obtain ⟨i26, h⟩ := h
          refine r_iald (pc := 91) C dX11_walker_91 o_a25 i26 ?_
          refine r_topi (fun x27 ex27 => ?_)
          have h := h x27 ex27
          refine r_callVi0 (pc := 92) C (rest := []) (a := v0) o_v0 [.int x27] yV_X11_good g_1518 (c_X11_good h) dX11_walker_92 rfl rfl (by decide) ⟨by decide, by decide⟩ ⟨by decide, by decide⟩ ⟨rfl, rfl⟩ (fun x30 S28 h g29 => ?_)
          have h := h g29
          have o_a24 := gr_ob g29 o_a24
          have o_a25 := gr_ob g29 o_a25
          have o_v0 := gr_ob g29 o_v0
          exact r_iret (pc := 95) C E ht dX11_walker_95 (by decide) (by decide) h
        | 2, _, hx =>
          refine ⟨66, 96, rfl, by decide, ?_⟩
          have h := h.2.2.2.1 (by simpa using hx)
          refine r_aload_n (pc := 96) C dX11_walker_96 0 rfl ?_
          refine r_aload_n (pc := 97) C dX11_walker_97 0 rfl ?_
          obtain ⟨a31, ea31, h⟩ := h
          refine r_getr (pc := 98) C fL_X11_338 dX11_walker_98 o_v0 ea31 ?_
          obtain ⟨o_a31, h⟩ := h
          obtain ⟨a32, ea32, h⟩ := h
          refine r_getNr (pc := 101) C fN_X11_308 dX11_walker_101 o_a31 ea32 ?_
          refine r_iload_n (pc := 104) C dX11_walker_104 1 rfl ?_
          obtain ⟨o_a32, h⟩ := h
          obtain ⟨i33, h⟩ := h
          refine r_iald (pc := 105) C dX11_walker_105 o_a32 i33 ?_
          refine r_topi (fun x34 ex34 => ?_)
          have h := h x34 ex34
          refine r_callVi0 (pc := 106) C (rest := []) (a := v0) o_v0 [.int x34] yV_X11_good g_1518 (c_X11_good h) dX11_walker_106 rfl rfl (by decide) ⟨by decide, by decide⟩ ⟨by decide, by decide⟩ ⟨rfl, rfl⟩ (fun x37 S35 h g36 => ?_)
          have h := h g36
          have o_a31 := gr_ob g36 o_a31
          have o_a32 := gr_ob g36 o_a32
          have o_v0 := gr_ob g36 o_v0
          exact r_iret (pc := 109) C E ht dX11_walker_109 (by decide) (by decide) h
        | 3, _, hx =>
          refine ⟨80, 110, rfl, by decide, ?_⟩
          have h := h.2.2.2.2.1 (by simpa using hx)
          refine r_aload_n (pc := 110) C dX11_walker_110 0 rfl ?_
          refine r_aload_n (pc := 111) C dX11_walker_111 0 rfl ?_
          obtain ⟨a38, ea38, h⟩ := h
          refine r_getr (pc := 112) C fL_X11_338 dX11_walker_112 o_v0 ea38 ?_
          obtain ⟨o_a38, h⟩ := h
          obtain ⟨a39, ea39, h⟩ := h
          refine r_getNr (pc := 115) C fN_X11_311 dX11_walker_115 o_a38 ea39 ?_
          refine r_iload_n (pc := 118) C dX11_walker_118 1 rfl ?_
          obtain ⟨o_a39, h⟩ := h
          obtain ⟨i40, h⟩ := h
          refine r_iald (pc := 119) C dX11_walker_119 o_a39 i40 ?_
          refine r_topi (fun x41 ex41 => ?_)
          have h := h x41 ex41
          refine r_callVi0 (pc := 120) C (rest := []) (a := v0) o_v0 [.int x41] yV_X11_good g_1518 (c_X11_good h) dX11_walker_120 rfl rfl (by decide) ⟨by decide, by decide⟩ ⟨by decide, by decide⟩ ⟨rfl, rfl⟩ (fun x44 S42 h g43 => ?_)
          have h := h g43
          have o_a38 := gr_ob g43 o_a38
          have o_a39 := gr_ob g43 o_a39
          have o_v0 := gr_ob g43 o_v0
          exact r_iret (pc := 123) C E ht dX11_walker_123 (by decide) (by decide) h
        | 4, _, hx =>
          refine ⟨94, 124, rfl, by decide, ?_⟩
          have h := h.2.2.2.2.2.1 (by simpa using hx)
          refine r_aload_n (pc := 124) C dX11_walker_124 0 rfl ?_
          refine r_aload_n (pc := 125) C dX11_walker_125 0 rfl ?_
          obtain ⟨a45, ea45, h⟩ := h
          refine r_getr (pc := 126) C fL_X11_338 dX11_walker_126 o_v0 ea45 ?_
          obtain ⟨o_a45, h⟩ := h
          obtain ⟨a46, ea46, h⟩ := h
          refine r_getNr (pc := 129) C fN_X11_314 dX11_walker_129 o_a45 ea46 ?_
          refine r_iload_n (pc := 132) C dX11_walker_132 1 rfl ?_
          obtain ⟨o_a46, h⟩ := h
          obtain ⟨i47, h⟩ := h
          refine r_iald (pc := 133) C dX11_walker_133 o_a46 i47 ?_
          refine r_topi (fun x48 ex48 => ?_)
          have h := h x48 ex48
          refine r_callVi0 (pc := 134) C (rest := []) (a := v0) o_v0 [.int x48] yV_X11_good g_1518 (c_X11_good h) dX11_walker_134 rfl rfl (by decide) ⟨by decide, by decide⟩ ⟨by decide, by decide⟩ ⟨rfl, rfl⟩ (fun x51 S49 h g50 => ?_)
          have h := h g50
          have o_a45 := gr_ob g50 o_a45
          have o_a46 := gr_ob g50 o_a46
          have o_v0 := gr_ob g50 o_v0
          exact r_iret (pc := 137) C E ht dX11_walker_137 (by decide) (by decide) h
        | 5, _, hx =>
          refine ⟨108, 138, rfl, by decide, ?_⟩
          have h := h.2.2.2.2.2.2 (by simpa using hx)
          refine r_aload_n (pc := 138) C dX11_walker_138 0 rfl ?_
          refine r_aload_n (pc := 139) C dX11_walker_139 0 rfl ?_
          obtain ⟨a52, ea52, h⟩ := h
          refine r_getr (pc := 140) C fL_X11_338 dX11_walker_140 o_v0 ea52 ?_
          obtain ⟨o_a52, h⟩ := h
          obtain ⟨a53, ea53, h⟩ := h
          refine r_getNr (pc := 143) C fN_X11_317 dX11_walker_143 o_a52 ea53 ?_
          refine r_iload_n (pc := 146) C dX11_walker_146 1 rfl ?_
          obtain ⟨o_a53, h⟩ := h
          obtain ⟨i54, h⟩ := h
          refine r_iald (pc := 147) C dX11_walker_147 o_a53 i54 ?_
          refine r_topi (fun x55 ex55 => ?_)
          have h := h x55 ex55
          refine r_callVi0 (pc := 148) C (rest := []) (a := v0) o_v0 [.int x55] yV_X11_good g_1518 (c_X11_good h) dX11_walker_148 rfl rfl (by decide) ⟨by decide, by decide⟩ ⟨by decide, by decide⟩ ⟨rfl, rfl⟩ (fun x58 S56 h g57 => ?_)
          have h := h g57
          have o_a52 := gr_ob g57 o_a52
          have o_a53 := gr_ob g57 o_a53
          have o_v0 := gr_ob g57 o_v0
          exact r_iret (pc := 151) C E ht dX11_walker_151 (by decide) (by decide) h
        | j + 6, hj, _ => exact absurd hj (by omega)
    · have h := h.2 c8
      exact r_sub [0] rfl (T_X11_walker_23 C E ht hn h)
def P_X11_walker (v0 : Nat) (v1 : Int32) (v2 : Int32) (Q : Int32 → HS → Prop) (S : HS) : Prop := P_X11_walker_0 Q v0 v1 v2 S
theorem c_X11_walker {l : Launch} {Ee : EE} {S : HS} {v0 : Nat} {v1 : Int32} {v2 : Int32} {Q : Int32 → HS → Prop} (h : P_X11_walker v0 v1 v2 Q S) : MI l yX11_walker cX11_walker 3 (some .int) rm_X11_walker Ee S [.ref v0, .int v1, .int v2] Q :=
  openI (by decide) (by decide) (fun X C E ht hn hE hl => by subst hE; exact r_sub [0, 1, 2] rfl (T_X11_walker_0 C E ht hn h))
def rm_X11_wet : Room := { frames := 6, cells := 0, slots := 0, locals := 163 }
def P_X11_wet_0 (Q : Int64 → HS → Prop) (v0 : Nat) (v1 : Int32) (v2 : Int32) (v3 : Int32) (v4 : Int32) (v5 : Int32) (v6 : Int32) (S : HS) : Prop := ob S v0 11 ∧ (P_X11_refuses v0 v1 v2 v3 v4 v5 (fun x3 S1 => Gr (sI S v0 0 (0 : Int32)) S1 → (((x3 ≤ 0) → (P_X11_wetOf v0 v1 v2 v3 v4 v5 (fun x7 S5 => Gr S1 S5 → (P_X11_told v0 x7 (2520 : Int64) v6 (fun x10 S8 => Gr S5 S8 → (Q x10 S8)) S5)) S1)) ∧ ((¬ x3 ≤ 0) → (P_X11_refused v0 x3 (fun x13 S11 => Gr S1 S11 → (Q x13.toInt64 S11)) S1)))) (sI S v0 0 (0 : Int32)))
set_option maxRecDepth 20000 in
set_option maxHeartbeats 4000000 in
theorem T_X11_wet_0 {X : CX} {Q : Int64 → HS → Prop} (C : Cx X cX11_wet RX11 8 rm_X11_wet) (E : ReJ X rm_X11_wet Q) (ht : (xh X).sig.returnType = (some .long)) (hn : (xh X).name = yX11_wet.name) {v0 : Nat} {v1 : Int32} {v2 : Int32} {v3 : Int32} {v4 : Int32} {v5 : Int32} {v6 : Int32} {S : HS} (h : P_X11_wet_0 Q v0 v1 v2 v3 v4 v5 v6 S) : WS X 8 0 0 0 [(0, .ref v0), (1, .int v1), (2, .int v2), (3, .int v3), (4, .int v4), (5, .int v5), (6, .int v6)] [] S := by
  refine r_aload_n (pc := 0) C dX11_wet_0 0 rfl ?_
  refine r_iconst (pc := 1) C (v := (0 : Int32)) dX11_wet_1 (by decide) ?_
  obtain ⟨o_v0, h⟩ := h
  refine r_puti (pc := 2) C pfL_X11_40 dX11_wet_2 o_v0 ?_
  refine r_aload_n (pc := 5) C dX11_wet_5 0 rfl ?_
  refine r_iload_n (pc := 6) C dX11_wet_6 1 rfl ?_
  refine r_iload_n (pc := 7) C dX11_wet_7 2 rfl ?_
  refine r_iload_n (pc := 8) C dX11_wet_8 3 rfl ?_
  refine r_iload (pc := 9) C dX11_wet_9 4 rfl ?_
  refine r_iload (pc := 11) C dX11_wet_11 5 rfl ?_
  refine r_callVi0 (pc := 13) C (rest := []) (a := v0) o_v0 [.int v1, .int v2, .int v3, .int v4, .int v5] yV_X11_refuses g_1534 (c_X11_refuses h) dX11_wet_13 rfl rfl (by decide) ⟨by decide, by decide⟩ ⟨by decide, by decide⟩ ⟨rfl, rfl⟩ (fun x3 S1 h g2 => ?_)
  have h := h g2
  have o_v0 := gr_ob g2 o_v0
  refine r_istore (pc := 16) C dX11_wet_16 (by decide) (lv' := [(7, .int x3), (0, .ref v0), (1, .int v1), (2, .int v2), (3, .int v3), (4, .int v4), (5, .int v5), (6, .int v6)]) rfl ?_
  refine r_iload (pc := 18) C dX11_wet_18 0 rfl ?_
  refine r_if_le (pc := 20) C (tgt := 33) dX11_wet_20 (by decide) (fun c4 => ?_) (fun c4 => ?_)
  · have h := h.1 c4
    refine r_aload_n (pc := 33) C dX11_wet_33 1 rfl ?_
    refine r_aload_n (pc := 34) C dX11_wet_34 1 rfl ?_
    refine r_iload_n (pc := 35) C dX11_wet_35 2 rfl ?_
    refine r_iload_n (pc := 36) C dX11_wet_36 3 rfl ?_
    refine r_iload_n (pc := 37) C dX11_wet_37 4 rfl ?_
    refine r_iload (pc := 38) C dX11_wet_38 5 rfl ?_
    refine r_iload (pc := 40) C dX11_wet_40 6 rfl ?_
    refine r_callVl0 (pc := 42) C (rest := [.ref v0]) (a := v0) o_v0 [.int v1, .int v2, .int v3, .int v4, .int v5] yV_X11_wetOf g_1594 (c_X11_wetOf h) dX11_wet_42 rfl rfl (by decide) ⟨by decide, by decide⟩ ⟨by decide, by decide⟩ ⟨rfl, rfl⟩ (fun x7 S5 h g6 => ?_)
    have h := h g6
    have o_v0 := gr_ob g6 o_v0
    refine r_ldc2 (pc := 45) C (v := (2520 : Int64)) dX11_wet_45 g_1585 ?_
    refine r_iload (pc := 48) C dX11_wet_48 7 rfl ?_
    refine r_callVl0 (pc := 50) C (rest := []) (a := v0) o_v0 [.long x7, .long (2520 : Int64), .int v6] yV_X11_told g_1586 (c_X11_told h) dX11_wet_50 rfl rfl (by decide) ⟨by decide, by decide⟩ ⟨by decide, by decide⟩ ⟨rfl, rfl⟩ (fun x10 S8 h g9 => ?_)
    have h := h g9
    have o_v0 := gr_ob g9 o_v0
    exact r_lret (pc := 53) C E ht dX11_wet_53 (by decide) (by decide) h
  · have h := h.2 c4
    refine r_aload_n (pc := 23) C dX11_wet_23 1 rfl ?_
    refine r_iload (pc := 24) C dX11_wet_24 0 rfl ?_
    refine r_callVi0 (pc := 26) C (rest := []) (a := v0) o_v0 [.int x3] yV_X11_refused g_1250 (c_X11_refused h) dX11_wet_26 rfl rfl (by decide) ⟨by decide, by decide⟩ ⟨by decide, by decide⟩ ⟨rfl, rfl⟩ (fun x13 S11 h g12 => ?_)
    have h := h g12
    have o_v0 := gr_ob g12 o_v0
    refine r_i2l (pc := 29) C dX11_wet_29 ?_
    refine r_goto (pc := 30) C (tgt := 53) dX11_wet_30 (by decide) ?_
    exact r_lret (pc := 53) C E ht dX11_wet_53 (by decide) (by decide) h
def P_X11_wet (v0 : Nat) (v1 : Int32) (v2 : Int32) (v3 : Int32) (v4 : Int32) (v5 : Int32) (v6 : Int32) (Q : Int64 → HS → Prop) (S : HS) : Prop := P_X11_wet_0 Q v0 v1 v2 v3 v4 v5 v6 S
theorem c_X11_wet {l : Launch} {Ee : EE} {S : HS} {v0 : Nat} {v1 : Int32} {v2 : Int32} {v3 : Int32} {v4 : Int32} {v5 : Int32} {v6 : Int32} {Q : Int64 → HS → Prop} (h : P_X11_wet v0 v1 v2 v3 v4 v5 v6 Q S) : MJ l yX11_wet cX11_wet 8 (some .long) rm_X11_wet Ee S [.ref v0, .int v1, .int v2, .int v3, .int v4, .int v5, .int v6] Q :=
  openJ (by decide) (by decide) (fun X C E ht hn hE hl => by subst hE; exact r_sub [0, 1, 2, 3, 4, 5, 6] rfl (T_X11_wet_0 C E ht hn h))
def rm_X11_wetness : Room := { frames := 2, cells := 0, slots := 0, locals := 52 }
def P_X11_wetness_41 (Q : Int64 → HS → Prop) (v1 : Int32) (s0 : Nat) (s1 : Int64) (S : HS) : Prop := ob S s0 11 ∧ (P_X11_told s0 s1 (2520 : Int64) v1 (fun x3 S1 => Gr S S1 → (Q x3 S1)) S)
set_option maxRecDepth 20000 in
set_option maxHeartbeats 4000000 in
theorem T_X11_wetness_41 {X : CX} {Q : Int64 → HS → Prop} (C : Cx X cX11_wetness RX11 4 rm_X11_wetness) (E : ReJ X rm_X11_wetness Q) (ht : (xh X).sig.returnType = (some .long)) (hn : (xh X).name = yX11_wetness.name) {v1 : Int32} {s0 : Nat} {s1 : Int64} {S : HS} (h : P_X11_wetness_41 Q v1 s0 s1 S) : WS X 4 0 0 41 [(1, .int v1)] [.long s1, .ref s0] S := by
  refine r_ldc2 (pc := 41) C (v := (2520 : Int64)) dX11_wetness_41 g_1585 ?_
  refine r_iload_n (pc := 44) C dX11_wetness_44 0 rfl ?_
  obtain ⟨o_s0, h⟩ := h
  refine r_callVl0 (pc := 45) C (rest := []) (a := s0) o_s0 [.long s1, .long (2520 : Int64), .int v1] yV_X11_told g_1586 (c_X11_told h) dX11_wetness_45 rfl rfl (by decide) ⟨by decide, by decide⟩ ⟨by decide, by decide⟩ ⟨rfl, rfl⟩ (fun x3 S1 h g2 => ?_)
  have h := h g2
  have o_s0 := gr_ob g2 o_s0
  exact r_lret (pc := 48) C E ht dX11_wetness_48 (by decide) (by decide) h
def P_X11_wetness_0 (Q : Int64 → HS → Prop) (v0 : Nat) (v1 : Int32) (S : HS) : Prop := ob S v0 11 ∧ (P_X11_isDay v0 (fun x3 S1 => Gr (sI S v0 0 (0 : Int32)) S1 → bl x3 → (((¬ x3 = 0) → (P_X11_gotInAll v0 (fun x7 S5 => Gr S1 S5 → (P_X11_holds v0 (fun x10 S8 => Gr S5 S8 → (∀ x11 : Int64, x11 = x7 - x10 → (((0 ≤ (lg_cmp x11 (0 : Int64))) → (P_X11_wetness_41 Q v1 v0 x11 S8)) ∧ ((¬ 0 ≤ (lg_cmp x11 (0 : Int64))) → (P_X11_wetness_41 Q v1 v0 (0 : Int64) S8))))) S5)) S1)) ∧ ((x3 = 0) → (P_X11_refused v0 (1 : Int32) (fun x15 S13 => Gr S1 S13 → (Q x15.toInt64 S13)) S1)))) (sI S v0 0 (0 : Int32)))
set_option maxRecDepth 20000 in
set_option maxHeartbeats 4000000 in
theorem T_X11_wetness_0 {X : CX} {Q : Int64 → HS → Prop} (C : Cx X cX11_wetness RX11 4 rm_X11_wetness) (E : ReJ X rm_X11_wetness Q) (ht : (xh X).sig.returnType = (some .long)) (hn : (xh X).name = yX11_wetness.name) {v0 : Nat} {v1 : Int32} {S : HS} (h : P_X11_wetness_0 Q v0 v1 S) : WS X 4 0 0 0 [(0, .ref v0), (1, .int v1)] [] S := by
  refine r_aload_n (pc := 0) C dX11_wetness_0 0 rfl ?_
  refine r_iconst (pc := 1) C (v := (0 : Int32)) dX11_wetness_1 (by decide) ?_
  obtain ⟨o_v0, h⟩ := h
  refine r_puti (pc := 2) C pfL_X11_40 dX11_wetness_2 o_v0 ?_
  refine r_aload_n (pc := 5) C dX11_wetness_5 0 rfl ?_
  refine r_callVi0 (pc := 6) C (rest := []) (a := v0) o_v0 [] yV_X11_isDay g_1779 (c_X11_isDay h) dX11_wetness_6 rfl rfl (by decide) ⟨by decide, by decide⟩ ⟨by decide, by decide⟩ ⟨rfl, rfl⟩ (fun x3 S1 h g2 => ?_)
  have bx3 := h.1
  have h := h.2 g2 bx3
  have o_v0 := gr_ob g2 o_v0
  refine r_if_ne (pc := 9) C (tgt := 19) dX11_wetness_9 (by decide) (fun c4 => ?_) (fun c4 => ?_)
  · have h := h.1 c4
    refine r_aload_n (pc := 19) C dX11_wetness_19 0 rfl ?_
    refine r_callVl0 (pc := 20) C (rest := []) (a := v0) o_v0 [] yV_X11_gotInAll g_1812 (c_X11_gotInAll h) dX11_wetness_20 rfl rfl (by decide) ⟨by decide, by decide⟩ ⟨by decide, by decide⟩ ⟨rfl, rfl⟩ (fun x7 S5 h g6 => ?_)
    have h := h g6
    have o_v0 := gr_ob g6 o_v0
    refine r_aload_n (pc := 23) C dX11_wetness_23 0 rfl ?_
    refine r_callVl0 (pc := 24) C (rest := [.long x7]) (a := v0) o_v0 [] yV_X11_holds g_1816 (c_X11_holds h) dX11_wetness_24 rfl rfl (by decide) ⟨by decide, by decide⟩ ⟨by decide, by decide⟩ ⟨rfl, rfl⟩ (fun x10 S8 h g9 => ?_)
    have h := h g9
    have o_v0 := gr_ob g9 o_v0
    refine r_lsub (pc := 27) C dX11_wetness_27 ?_
    refine r_topl (fun x11 ex11 => ?_)
    have h := h x11 ex11
    refine r_lstore_n (pc := 28) C dX11_wetness_28 rfl (by decide) (lv' := [(2, .long x11), (0, .ref v0), (1, .int v1)]) rfl ?_
    refine r_aload_n (pc := 29) C dX11_wetness_29 1 rfl ?_
    refine r_lload_n (pc := 30) C dX11_wetness_30 0 rfl ?_
    refine r_lconst (pc := 31) C (v := (0 : Int64)) dX11_wetness_31 (by decide) ?_
    refine r_lcmp (pc := 32) C dX11_wetness_32 ?_
    refine r_if_ge (pc := 33) C (tgt := 40) dX11_wetness_33 (by decide) (fun c12 => ?_) (fun c12 => ?_)
    · have h := h.1 c12
      refine r_lload_n (pc := 40) C dX11_wetness_40 0 rfl ?_
      exact r_sub [2] rfl (T_X11_wetness_41 C E ht hn h)
    · have h := h.2 c12
      refine r_lconst (pc := 36) C (v := (0 : Int64)) dX11_wetness_36 (by decide) ?_
      refine r_goto (pc := 37) C (tgt := 41) dX11_wetness_37 (by decide) ?_
      exact r_sub [2] rfl (T_X11_wetness_41 C E ht hn h)
  · have h := h.2 c4
    refine r_aload_n (pc := 12) C dX11_wetness_12 0 rfl ?_
    refine r_iconst (pc := 13) C (v := (1 : Int32)) dX11_wetness_13 (by decide) ?_
    refine r_callVi0 (pc := 14) C (rest := []) (a := v0) o_v0 [.int (1 : Int32)] yV_X11_refused g_1250 (c_X11_refused h) dX11_wetness_14 rfl rfl (by decide) ⟨by decide, by decide⟩ ⟨by decide, by decide⟩ ⟨rfl, rfl⟩ (fun x15 S13 h g14 => ?_)
    have h := h g14
    have o_v0 := gr_ob g14 o_v0
    refine r_i2l (pc := 17) C dX11_wetness_17 ?_
    exact r_lret (pc := 18) C E ht dX11_wetness_18 (by decide) (by decide) h
def P_X11_wetness (v0 : Nat) (v1 : Int32) (Q : Int64 → HS → Prop) (S : HS) : Prop := P_X11_wetness_0 Q v0 v1 S
theorem c_X11_wetness {l : Launch} {Ee : EE} {S : HS} {v0 : Nat} {v1 : Int32} {Q : Int64 → HS → Prop} (h : P_X11_wetness v0 v1 Q S) : MJ l yX11_wetness cX11_wetness 4 (some .long) rm_X11_wetness Ee S [.ref v0, .int v1] Q :=
  openJ (by decide) (by decide) (fun X C E ht hn hE hl => by subst hE; exact r_sub [0, 1] rfl (T_X11_wetness_0 C E ht hn h))
def rm_X11_where : Room := { frames := 0, cells := 0, slots := 0, locals := 0 }
def P_X11_where_0 (Q : Int32 → HS → Prop) (v0 : Nat) (S : HS) : Prop := ob S v0 11 ∧ (∀ x1 : Int32, x1 = fI (sI S v0 0 (0 : Int32)) v0 2 → (Q x1 (sI S v0 0 (0 : Int32))))
set_option maxRecDepth 20000 in
set_option maxHeartbeats 4000000 in
theorem T_X11_where_0 {X : CX} {Q : Int32 → HS → Prop} (C : Cx X cX11_where RX11 1 rm_X11_where) (E : ReI X rm_X11_where Q) (ht : (xh X).sig.returnType = (some .int)) (hn : (xh X).name = yX11_where.name) {v0 : Nat} {S : HS} (h : P_X11_where_0 Q v0 S) : WS X 1 0 0 0 [(0, .ref v0)] [] S := by
  refine r_aload_n (pc := 0) C dX11_where_0 0 rfl ?_
  refine r_iconst (pc := 1) C (v := (0 : Int32)) dX11_where_1 (by decide) ?_
  obtain ⟨o_v0, h⟩ := h
  refine r_puti (pc := 2) C pfL_X11_40 dX11_where_2 o_v0 ?_
  refine r_aload_n (pc := 5) C dX11_where_5 0 rfl ?_
  refine r_geti (pc := 6) C fL_X11_9 dX11_where_6 o_v0 ?_
  refine r_topi (fun x1 ex1 => ?_)
  have h := h x1 ex1
  exact r_iret (pc := 9) C E ht dX11_where_9 (by decide) (by decide) h
def P_X11_where (v0 : Nat) (Q : Int32 → HS → Prop) (S : HS) : Prop := P_X11_where_0 Q v0 S
theorem c_X11_where {l : Launch} {Ee : EE} {S : HS} {v0 : Nat} {Q : Int32 → HS → Prop} (h : P_X11_where v0 Q S) : MI l yX11_where cX11_where 1 (some .int) rm_X11_where Ee S [.ref v0] Q :=
  openI (by decide) (by decide) (fun X C E ht hn hE hl => by subst hE; exact r_sub [0] rfl (T_X11_where_0 C E ht hn h))
def rm_X11_world : Room := { frames := 12, cells := 25, slots := 225, locals := 280 }
def P_X11_world_17 (Q : Int32 → HS → Prop) (v0 : Nat) (S : HS) : Prop := ob S v0 11 ∧ (P_X11_refused v0 (2 : Int32) (fun x3 S1 => Gr S S1 → (Q x3 S1)) S)
set_option maxRecDepth 20000 in
set_option maxHeartbeats 4000000 in
theorem T_X11_world_17 {X : CX} {Q : Int32 → HS → Prop} (C : Cx X cX11_world RX11 2 rm_X11_world) (E : ReI X rm_X11_world Q) (ht : (xh X).sig.returnType = (some .int)) (hn : (xh X).name = yX11_world.name) {v0 : Nat} {S : HS} (h : P_X11_world_17 Q v0 S) : WS X 2 0 0 17 [(0, .ref v0)] [] S := by
  refine r_aload_n (pc := 17) C dX11_world_17 0 rfl ?_
  refine r_iconst (pc := 18) C (v := (2 : Int32)) dX11_world_18 (by decide) ?_
  obtain ⟨o_v0, h⟩ := h
  refine r_callVi0 (pc := 19) C (rest := []) (a := v0) o_v0 [.int (2 : Int32)] yV_X11_refused g_1250 (c_X11_refused h) dX11_world_19 rfl rfl (by decide) ⟨by decide, by decide⟩ ⟨by decide, by decide⟩ ⟨rfl, rfl⟩ (fun x3 S1 h g2 => ?_)
  have h := h g2
  have o_v0 := gr_ob g2 o_v0
  exact r_iret (pc := 22) C E ht dX11_world_22 (by decide) (by decide) h
def P_X11_world_0 (Q : Int32 → HS → Prop) (v0 : Nat) (v1 : Int32) (S : HS) : Prop := ob S v0 11 ∧ (((v1 < 0) → (P_X11_world_17 Q v0 (sI S v0 0 (0 : Int32)))) ∧ ((¬ v1 < 0) → (∀ x2 : Int32, x2 = fI (sI S v0 0 (0 : Int32)) v0 6 → (((v1 ≤ x2) → (∀ a4 : Nat, a4 ∉ hL (sI (sI (sI (sI (sI S v0 0 (0 : Int32)) v0 7 v1) v0 6 (0 : Int32)) v0 8 (0 : Int32)) v0 13 (0 : Int32)) → ∀ S5 : HS, S5 = nW (sI (sI (sI (sI (sI S v0 0 (0 : Int32)) v0 7 v1) v0 6 (0 : Int32)) v0 8 (0 : Int32)) v0 13 (0 : Int32)) a4 10 0 → (P_X10_init a4 (fun S6 => Gr S5 S6 → (P_X11_goesOn v0 (fun S9 => Gr (sI (sR S6 v0 4 (some a4)) v0 9 (0 : Int32)) S9 → (P_X11_readAll v0 (fun S12 => Gr S9 S12 → (∀ x15 : Int32, x15 = fI S12 v0 13 → (((x15 ≤ 0) → (∃ a17 : Nat, fR S12 v0 4 = some a17 ∧ (∃ a18 : Nat, fR (sI (sI (sI (sR S12 v0 3 (some a17)) v0 19 (-2 : Int32)) v0 24 (0 : Int32)) v0 25 (0 : Int32)) v0 3 = some a18 ∧ (ob (sI (sI (sI (sR S12 v0 3 (some a17)) v0 19 (-2 : Int32)) v0 24 (0 : Int32)) v0 25 (0 : Int32)) a18 10 ∧ (∀ x19 : Int32, x19 = fI (sI (sI (sI (sR S12 v0 3 (some a17)) v0 19 (-2 : Int32)) v0 24 (0 : Int32)) v0 25 (0 : Int32)) a18 4 → (P_X11_good v0 x19 (fun x22 S20 => Gr (sI (sI (sI (sR S12 v0 3 (some a17)) v0 19 (-2 : Int32)) v0 24 (0 : Int32)) v0 25 (0 : Int32)) S20 → (Q x22 S20)) (sI (sI (sI (sR S12 v0 3 (some a17)) v0 19 (-2 : Int32)) v0 24 (0 : Int32)) v0 25 (0 : Int32)))))))) ∧ ((¬ x15 ≤ 0) → (∀ x23 : Int32, x23 = fI (sI S12 v0 1 (4 : Int32)) v0 14 → (Q (-1 : Int32) (sI (sI S12 v0 1 (4 : Int32)) v0 2 x23))))))) S9)) (sI (sR S6 v0 4 (some a4)) v0 9 (0 : Int32)))) S5))) ∧ ((¬ v1 ≤ x2) → (P_X11_world_17 Q v0 (sI S v0 0 (0 : Int32))))))))
set_option maxRecDepth 20000 in
set_option maxHeartbeats 4000000 in
theorem T_X11_world_0 {X : CX} {Q : Int32 → HS → Prop} (C : Cx X cX11_world RX11 2 rm_X11_world) (E : ReI X rm_X11_world Q) (ht : (xh X).sig.returnType = (some .int)) (hn : (xh X).name = yX11_world.name) {v0 : Nat} {v1 : Int32} {S : HS} (h : P_X11_world_0 Q v0 v1 S) : WS X 2 0 0 0 [(0, .ref v0), (1, .int v1)] [] S := by
  refine r_aload_n (pc := 0) C dX11_world_0 0 rfl ?_
  refine r_iconst (pc := 1) C (v := (0 : Int32)) dX11_world_1 (by decide) ?_
  obtain ⟨o_v0, h⟩ := h
  refine r_puti (pc := 2) C pfL_X11_40 dX11_world_2 o_v0 ?_
  refine r_iload_n (pc := 5) C dX11_world_5 1 rfl ?_
  refine r_if_lt (pc := 6) C (tgt := 17) dX11_world_6 (by decide) (fun c1 => ?_) (fun c1 => ?_)
  · have h := h.1 c1
    exact r_sub [0] rfl (T_X11_world_17 C E ht hn h)
  · have h := h.2 c1
    refine r_iload_n (pc := 9) C dX11_world_9 1 rfl ?_
    refine r_aload_n (pc := 10) C dX11_world_10 0 rfl ?_
    refine r_geti (pc := 11) C fL_X11_331 dX11_world_11 o_v0 ?_
    refine r_topi (fun x2 ex2 => ?_)
    have h := h x2 ex2
    refine r_icmp_le (pc := 14) C (tgt := 23) dX11_world_14 (by decide) (fun c3 => ?_) (fun c3 => ?_)
    · have h := h.1 c3
      refine r_aload_n (pc := 23) C dX11_world_23 0 rfl ?_
      refine r_iload_n (pc := 24) C dX11_world_24 1 rfl ?_
      refine r_puti (pc := 25) C pfL_X11_53 dX11_world_25 o_v0 ?_
      refine r_aload_n (pc := 28) C dX11_world_28 0 rfl ?_
      refine r_iconst (pc := 29) C (v := (0 : Int32)) dX11_world_29 (by decide) ?_
      refine r_puti (pc := 30) C pfL_X11_331 dX11_world_30 o_v0 ?_
      refine r_aload_n (pc := 33) C dX11_world_33 0 rfl ?_
      refine r_iconst (pc := 34) C (v := (0 : Int32)) dX11_world_34 (by decide) ?_
      refine r_puti (pc := 35) C pfL_X11_71 dX11_world_35 o_v0 ?_
      refine r_aload_n (pc := 38) C dX11_world_38 0 rfl ?_
      refine r_iconst (pc := 39) C (v := (0 : Int32)) dX11_world_39 (by decide) ?_
      refine r_puti (pc := 40) C pfL_X11_97 dX11_world_40 o_v0 ?_
      refine r_aload_n (pc := 43) C dX11_world_43 0 rfl ?_
      refine r_new (pc := 44) C nc_X11_152 dX11_world_44 (by decide) (by decide) (fun a4 q24 => ?_)
      refine r_heap (fun S5 eS5 => ?_)
      have h := h a4 q24 S5 eS5
      have g25 := gr_of_new eS5 q24
      have o_a4 := ob_of_new eS5
      have o_v0 := gr_ob g25 o_v0
      refine r_dup (pc := 47) C dX11_world_47 rfl ?_
      refine r_callNv (pc := 48) C (rest := [.ref a4, .ref v0]) (a := a4) [] yI_X10_init (List.mem_of_getElem? (i := 7) rfl) (c_X10_init h) dX11_world_48 rfl rfl (by decide) ⟨by decide, by decide⟩ ⟨by decide, by decide⟩ (fun S6 h g7 => ?_)
      have h := h g7
      have o_a4 := gr_ob g7 o_a4
      have o_v0 := gr_ob g7 o_v0
      refine r_putr (pc := 51) C pfL_X11_147 dX11_world_51 o_v0 ?_
      refine r_aload_n (pc := 54) C dX11_world_54 0 rfl ?_
      refine r_iconst (pc := 55) C (v := (0 : Int32)) dX11_world_55 (by decide) ?_
      refine r_puti (pc := 56) C pfL_X11_68 dX11_world_56 o_v0 ?_
      refine r_aload_n (pc := 59) C dX11_world_59 0 rfl ?_
      refine r_callVv0 (pc := 60) C (rest := []) (a := v0) o_v0 [] yV_X11_goesOn g_1380 (c_X11_goesOn h) dX11_world_60 rfl rfl (by decide) ⟨by decide, by decide⟩ ⟨by decide, by decide⟩ ⟨rfl, rfl⟩ (fun S9 h g10 => ?_)
      have h := h g10
      have o_a4 := gr_ob g10 o_a4
      have o_v0 := gr_ob g10 o_v0
      refine r_aload_n (pc := 63) C dX11_world_63 0 rfl ?_
      refine r_callVv0 (pc := 64) C (rest := []) (a := v0) o_v0 [] yV_X11_readAll g_1395 (c_X11_readAll h) dX11_world_64 rfl rfl (by decide) ⟨by decide, by decide⟩ ⟨by decide, by decide⟩ ⟨rfl, rfl⟩ (fun S12 h g13 => ?_)
      have h := h g13
      have o_a4 := gr_ob g13 o_a4
      have o_v0 := gr_ob g13 o_v0
      refine r_aload_n (pc := 67) C dX11_world_67 0 rfl ?_
      refine r_geti (pc := 68) C fL_X11_97 dX11_world_68 o_v0 ?_
      refine r_topi (fun x15 ex15 => ?_)
      have h := h x15 ex15
      refine r_if_le (pc := 71) C (tgt := 89) dX11_world_71 (by decide) (fun c16 => ?_) (fun c16 => ?_)
      · have h := h.1 c16
        refine r_aload_n (pc := 89) C dX11_world_89 0 rfl ?_
        refine r_aload_n (pc := 90) C dX11_world_90 0 rfl ?_
        obtain ⟨a17, ea17, h⟩ := h
        refine r_getr (pc := 91) C fL_X11_147 dX11_world_91 o_v0 ea17 ?_
        refine r_putr (pc := 94) C pfL_X11_338 dX11_world_94 o_v0 ?_
        refine r_aload_n (pc := 97) C dX11_world_97 0 rfl ?_
        refine r_bipush (pc := 98) C (v := (-2 : Int32)) dX11_world_98 (by decide) ?_
        refine r_puti (pc := 100) C pfL_X11_28 dX11_world_100 o_v0 ?_
        refine r_aload_n (pc := 103) C dX11_world_103 0 rfl ?_
        refine r_iconst (pc := 104) C (v := (0 : Int32)) dX11_world_104 (by decide) ?_
        refine r_puti (pc := 105) C pfL_X11_340 dX11_world_105 o_v0 ?_
        refine r_aload_n (pc := 108) C dX11_world_108 0 rfl ?_
        refine r_iconst (pc := 109) C (v := (0 : Int32)) dX11_world_109 (by decide) ?_
        refine r_puti (pc := 110) C pfL_X11_343 dX11_world_110 o_v0 ?_
        refine r_aload_n (pc := 113) C dX11_world_113 0 rfl ?_
        refine r_aload_n (pc := 114) C dX11_world_114 0 rfl ?_
        obtain ⟨a18, ea18, h⟩ := h
        refine r_getr (pc := 115) C fL_X11_338 dX11_world_115 o_v0 ea18 ?_
        obtain ⟨o_a18, h⟩ := h
        refine r_getNi (pc := 118) C fN_X11_193 dX11_world_118 o_a18 ?_
        refine r_topi (fun x19 ex19 => ?_)
        have h := h x19 ex19
        refine r_callVi0 (pc := 121) C (rest := []) (a := v0) o_v0 [.int x19] yV_X11_good g_1518 (c_X11_good h) dX11_world_121 rfl rfl (by decide) ⟨by decide, by decide⟩ ⟨by decide, by decide⟩ ⟨rfl, rfl⟩ (fun x22 S20 h g21 => ?_)
        have h := h g21
        have o_a18 := gr_ob g21 o_a18
        have o_a4 := gr_ob g21 o_a4
        have o_v0 := gr_ob g21 o_v0
        exact r_iret (pc := 124) C E ht dX11_world_124 (by decide) (by decide) h
      · have h := h.2 c16
        refine r_aload_n (pc := 74) C dX11_world_74 0 rfl ?_
        refine r_iconst (pc := 75) C (v := (4 : Int32)) dX11_world_75 (by decide) ?_
        refine r_puti (pc := 76) C pfL_X11_43 dX11_world_76 o_v0 ?_
        refine r_aload_n (pc := 79) C dX11_world_79 0 rfl ?_
        refine r_aload_n (pc := 80) C dX11_world_80 0 rfl ?_
        refine r_geti (pc := 81) C fL_X11_100 dX11_world_81 o_v0 ?_
        refine r_topi (fun x23 ex23 => ?_)
        have h := h x23 ex23
        refine r_puti (pc := 84) C pfL_X11_9 dX11_world_84 o_v0 ?_
        refine r_iconst (pc := 87) C (v := (-1 : Int32)) dX11_world_87 (by decide) ?_
        exact r_iret (pc := 88) C E ht dX11_world_88 (by decide) (by decide) h
    · have h := h.2 c3
      exact r_sub [0] rfl (T_X11_world_17 C E ht hn h)
def P_X11_world (v0 : Nat) (v1 : Int32) (Q : Int32 → HS → Prop) (S : HS) : Prop := P_X11_world_0 Q v0 v1 S
theorem c_X11_world {l : Launch} {Ee : EE} {S : HS} {v0 : Nat} {v1 : Int32} {Q : Int32 → HS → Prop} (h : P_X11_world v0 v1 Q S) : MI l yX11_world cX11_world 2 (some .int) rm_X11_world Ee S [.ref v0, .int v1] Q :=
  openI (by decide) (by decide) (fun X C E ht hn hE hl => by subst hE; exact r_sub [0, 1] rfl (T_X11_world_0 C E ht hn h))
def rm_X11_worst : Room := { frames := 6, cells := 0, slots := 0, locals := 163 }
def P_X11_worst_39 (Q : Int32 → HS → Prop) (v0 : Nat) (S : HS) : Prop := ob S v0 11 ∧ (P_X11_refused v0 (1 : Int32) (fun x3 S1 => Gr S S1 → (Q x3 S1)) S)
set_option maxRecDepth 20000 in
set_option maxHeartbeats 4000000 in
theorem T_X11_worst_39 {X : CX} {Q : Int32 → HS → Prop} (C : Cx X cX11_worst RX11 7 rm_X11_worst) (E : ReI X rm_X11_worst Q) (ht : (xh X).sig.returnType = (some .int)) (hn : (xh X).name = yX11_worst.name) {v0 : Nat} {S : HS} (h : P_X11_worst_39 Q v0 S) : WS X 7 0 0 39 [(0, .ref v0)] [] S := by
  refine r_aload_n (pc := 39) C dX11_worst_39 0 rfl ?_
  refine r_iconst (pc := 40) C (v := (1 : Int32)) dX11_worst_40 (by decide) ?_
  obtain ⟨o_v0, h⟩ := h
  refine r_callVi0 (pc := 41) C (rest := []) (a := v0) o_v0 [.int (1 : Int32)] yV_X11_refused g_1250 (c_X11_refused h) dX11_worst_41 rfl rfl (by decide) ⟨by decide, by decide⟩ ⟨by decide, by decide⟩ ⟨rfl, rfl⟩ (fun x3 S1 h g2 => ?_)
  have h := h g2
  have o_v0 := gr_ob g2 o_v0
  exact r_iret (pc := 44) C E ht dX11_worst_44 (by decide) (by decide) h
def P_X11_worst_106 (Q : Int32 → HS → Prop) (X62 : Nat → Int32 → Int32 → Int32 → Int32 → Int32 → Int32 → HS → Prop) (v0 : Nat) (v1 : Int32) (v2 : Int32) (v3 : Int32) (v4 : Int32) (v5 : Int32) (v6 : Int32) (S : HS) : Prop := ∀ x1 : Int32, x1 = v6 + (1 : Int32) → (X62 v0 v1 v2 v3 v4 v5 x1 S)
set_option maxRecDepth 20000 in
set_option maxHeartbeats 4000000 in
theorem T_X11_worst_106 {X : CX} {Q : Int32 → HS → Prop} (C : Cx X cX11_worst RX11 7 rm_X11_worst) (E : ReI X rm_X11_worst Q) (ht : (xh X).sig.returnType = (some .int)) (hn : (xh X).name = yX11_worst.name) {X62 : Nat → Int32 → Int32 → Int32 → Int32 → Int32 → Int32 → HS → Prop} (hX62 : ∀ (v0 : Nat) (v1 : Int32) (v2 : Int32) (v3 : Int32) (v4 : Int32) (v5 : Int32) (v6 : Int32) (S : HS), X62 v0 v1 v2 v3 v4 v5 v6 S → WS X 7 0 0 62 [(0, .ref v0), (1, .int v1), (2, .int v2), (3, .int v3), (4, .int v4), (5, .int v5), (6, .int v6)] [] S) {v0 : Nat} {v1 : Int32} {v2 : Int32} {v3 : Int32} {v4 : Int32} {v5 : Int32} {v6 : Int32} {S : HS} (h : P_X11_worst_106 Q X62 v0 v1 v2 v3 v4 v5 v6 S) : WS X 7 0 0 106 [(0, .ref v0), (1, .int v1), (2, .int v2), (3, .int v3), (4, .int v4), (5, .int v5), (6, .int v6)] [] S := by
  obtain ⟨x1, ex1⟩ : ∃ z : Int32, z = v6 + (1 : Int32) := ⟨_, rfl⟩
  have h := h x1 ex1
  refine r_iinc (pc := 106) C (v := x1) (lv' := [(6, .int x1), (0, .ref v0), (1, .int v1), (2, .int v2), (3, .int v3), (4, .int v4), (5, .int v5)]) dX11_worst_106 6 rfl ex1.symm (by decide) rfl ?_
  refine r_goto (pc := 109) C (tgt := 62) dX11_worst_109 (by decide) ?_
  exact r_sub [1, 2, 3, 4, 5, 6, 0] rfl (hX62 v0 v1 v2 v3 v4 v5 x1 S h)
def B_X11_worst_62 (Q : Int32 → HS → Prop) (X62 : Nat → Int32 → Int32 → Int32 → Int32 → Int32 → Int32 → HS → Prop) (v0 : Nat) (v1 : Int32) (v2 : Int32) (v3 : Int32) (v4 : Int32) (v5 : Int32) (v6 : Int32) (S : HS) : Prop := ob S v0 11 ∧ (∃ a1 : Nat, fR S v0 3 = some a1 ∧ (ob S a1 10 ∧ (∃ a2 : Nat, fR S a1 25 = some a2 ∧ (ob S a2 13 ∧ (vp_in v1 (hN S a2) ∧ ∀ x4 : Int32, x4 = fI S a2 v1.toNatClampNeg → (((x4 < v6) → (P_X11_good v0 v5 (fun x8 S6 => Gr S S6 → (Q x8 S6)) S)) ∧ ((¬ x4 < v6) → (P_X11_wetOf v0 v1 v2 v3 v4 v6 (fun x11 S9 => Gr S S9 → (P_X11_wetOf v0 v1 v2 v3 v4 v5 (fun x14 S12 => Gr S9 S12 → ((((lg_cmp x11 x14) ≤ 0) → (P_X11_worst_106 Q X62 v0 v1 v2 v3 v4 v5 v6 S12)) ∧ ((¬ (lg_cmp x11 x14) ≤ 0) → (P_X11_worst_106 Q X62 v0 v1 v2 v3 v4 v6 v6 S12)))) S9)) S))))))))
def P_X11_worst_62 (Q : Int32 → HS → Prop) (v0 : Nat) (v1 : Int32) (v2 : Int32) (v3 : Int32) (v4 : Int32) (v5 : Int32) (v6 : Int32) (S : HS) : Prop := ∀ X62 : Nat → Int32 → Int32 → Int32 → Int32 → Int32 → Int32 → HS → Prop, (∀ (v0 : Nat) (v1 : Int32) (v2 : Int32) (v3 : Int32) (v4 : Int32) (v5 : Int32) (v6 : Int32) (S : HS), B_X11_worst_62 Q X62 v0 v1 v2 v3 v4 v5 v6 S → X62 v0 v1 v2 v3 v4 v5 v6 S) → X62 v0 v1 v2 v3 v4 v5 v6 S
set_option maxRecDepth 20000 in
set_option maxHeartbeats 4000000 in
theorem TB_X11_worst_62 {X : CX} {Q : Int32 → HS → Prop} (C : Cx X cX11_worst RX11 7 rm_X11_worst) (E : ReI X rm_X11_worst Q) (ht : (xh X).sig.returnType = (some .int)) (hn : (xh X).name = yX11_worst.name) {X62 : Nat → Int32 → Int32 → Int32 → Int32 → Int32 → Int32 → HS → Prop} (hX62 : ∀ (v0 : Nat) (v1 : Int32) (v2 : Int32) (v3 : Int32) (v4 : Int32) (v5 : Int32) (v6 : Int32) (S : HS), X62 v0 v1 v2 v3 v4 v5 v6 S → WS X 7 0 0 62 [(0, .ref v0), (1, .int v1), (2, .int v2), (3, .int v3), (4, .int v4), (5, .int v5), (6, .int v6)] [] S) {v0 : Nat} {v1 : Int32} {v2 : Int32} {v3 : Int32} {v4 : Int32} {v5 : Int32} {v6 : Int32} {S : HS} (h : B_X11_worst_62 Q X62 v0 v1 v2 v3 v4 v5 v6 S) : WS X 7 0 0 62 [(0, .ref v0), (1, .int v1), (2, .int v2), (3, .int v3), (4, .int v4), (5, .int v5), (6, .int v6)] [] S := by
  refine r_iload (pc := 62) C dX11_worst_62 6 rfl ?_
  refine r_aload_n (pc := 64) C dX11_worst_64 0 rfl ?_
  obtain ⟨o_v0, h⟩ := h
  obtain ⟨a1, ea1, h⟩ := h
  refine r_getr (pc := 65) C fL_X11_338 dX11_worst_65 o_v0 ea1 ?_
  obtain ⟨o_a1, h⟩ := h
  obtain ⟨a2, ea2, h⟩ := h
  refine r_getNr (pc := 68) C fN_X11_320 dX11_worst_68 o_a1 ea2 ?_
  refine r_iload_n (pc := 71) C dX11_worst_71 1 rfl ?_
  obtain ⟨o_a2, h⟩ := h
  obtain ⟨i3, h⟩ := h
  refine r_iald (pc := 72) C dX11_worst_72 o_a2 i3 ?_
  refine r_topi (fun x4 ex4 => ?_)
  have h := h x4 ex4
  refine r_icmp_gt (pc := 73) C (tgt := 112) dX11_worst_73 (by decide) (fun c5 => ?_) (fun c5 => ?_)
  · have h := h.1 c5
    refine r_aload_n (pc := 112) C dX11_worst_112 0 rfl ?_
    refine r_iload (pc := 113) C dX11_worst_113 5 rfl ?_
    refine r_callVi0 (pc := 115) C (rest := []) (a := v0) o_v0 [.int v5] yV_X11_good g_1518 (c_X11_good h) dX11_worst_115 rfl rfl (by decide) ⟨by decide, by decide⟩ ⟨by decide, by decide⟩ ⟨rfl, rfl⟩ (fun x8 S6 h g7 => ?_)
    have h := h g7
    have o_a1 := gr_ob g7 o_a1
    have o_a2 := gr_ob g7 o_a2
    have o_v0 := gr_ob g7 o_v0
    exact r_iret (pc := 118) C E ht dX11_worst_118 (by decide) (by decide) h
  · have h := h.2 c5
    refine r_aload_n (pc := 76) C dX11_worst_76 0 rfl ?_
    refine r_iload_n (pc := 77) C dX11_worst_77 1 rfl ?_
    refine r_iload_n (pc := 78) C dX11_worst_78 2 rfl ?_
    refine r_iload_n (pc := 79) C dX11_worst_79 3 rfl ?_
    refine r_iload (pc := 80) C dX11_worst_80 4 rfl ?_
    refine r_iload (pc := 82) C dX11_worst_82 6 rfl ?_
    refine r_callVl0 (pc := 84) C (rest := []) (a := v0) o_v0 [.int v1, .int v2, .int v3, .int v4, .int v6] yV_X11_wetOf g_1594 (c_X11_wetOf h) dX11_worst_84 rfl rfl (by decide) ⟨by decide, by decide⟩ ⟨by decide, by decide⟩ ⟨rfl, rfl⟩ (fun x11 S9 h g10 => ?_)
    have h := h g10
    have o_a1 := gr_ob g10 o_a1
    have o_a2 := gr_ob g10 o_a2
    have o_v0 := gr_ob g10 o_v0
    refine r_aload_n (pc := 87) C dX11_worst_87 0 rfl ?_
    refine r_iload_n (pc := 88) C dX11_worst_88 1 rfl ?_
    refine r_iload_n (pc := 89) C dX11_worst_89 2 rfl ?_
    refine r_iload_n (pc := 90) C dX11_worst_90 3 rfl ?_
    refine r_iload (pc := 91) C dX11_worst_91 4 rfl ?_
    refine r_iload (pc := 93) C dX11_worst_93 5 rfl ?_
    refine r_callVl0 (pc := 95) C (rest := [.long x11]) (a := v0) o_v0 [.int v1, .int v2, .int v3, .int v4, .int v5] yV_X11_wetOf g_1594 (c_X11_wetOf h) dX11_worst_95 rfl rfl (by decide) ⟨by decide, by decide⟩ ⟨by decide, by decide⟩ ⟨rfl, rfl⟩ (fun x14 S12 h g13 => ?_)
    have h := h g13
    have o_a1 := gr_ob g13 o_a1
    have o_a2 := gr_ob g13 o_a2
    have o_v0 := gr_ob g13 o_v0
    refine r_lcmp (pc := 98) C dX11_worst_98 ?_
    refine r_if_le (pc := 99) C (tgt := 106) dX11_worst_99 (by decide) (fun c15 => ?_) (fun c15 => ?_)
    · have h := h.1 c15
      exact r_sub [0, 1, 2, 3, 4, 5, 6] rfl (T_X11_worst_106 C E ht hn hX62 h)
    · have h := h.2 c15
      refine r_iload (pc := 102) C dX11_worst_102 6 rfl ?_
      refine r_istore (pc := 104) C dX11_worst_104 (by decide) (lv' := [(5, .int v6), (0, .ref v0), (1, .int v1), (2, .int v2), (3, .int v3), (4, .int v4), (6, .int v6)]) rfl ?_
      exact r_sub [1, 2, 3, 4, 5, 0, 6] rfl (T_X11_worst_106 C E ht hn hX62 h)
theorem T_X11_worst_62 {X : CX} {Q : Int32 → HS → Prop} (C : Cx X cX11_worst RX11 7 rm_X11_worst) (E : ReI X rm_X11_worst Q) (ht : (xh X).sig.returnType = (some .int)) (hn : (xh X).name = yX11_worst.name) {v0 : Nat} {v1 : Int32} {v2 : Int32} {v3 : Int32} {v4 : Int32} {v5 : Int32} {v6 : Int32} {S : HS} (h : P_X11_worst_62 Q v0 v1 v2 v3 v4 v5 v6 S) : WS X 7 0 0 62 [(0, .ref v0), (1, .int v1), (2, .int v2), (3, .int v3), (4, .int v4), (5, .int v5), (6, .int v6)] [] S :=
  h (fun v0 v1 v2 v3 v4 v5 v6 S => WS X 7 0 0 62 [(0, .ref v0), (1, .int v1), (2, .int v2), (3, .int v3), (4, .int v4), (5, .int v5), (6, .int v6)] [] S) (fun v0 v1 v2 v3 v4 v5 v6 S hh => TB_X11_worst_62 C E ht hn (fun v0 v1 v2 v3 v4 v5 v6 S z => z) hh)
def P_X11_worst_0 (Q : Int32 → HS → Prop) (v0 : Nat) (v1 : Int32) (v2 : Int32) (v3 : Int32) (v4 : Int32) (S : HS) : Prop := ob S v0 11 ∧ (P_X11_isWalker v0 v1 (fun x3 S1 => Gr (sI S v0 0 (0 : Int32)) S1 → bl x3 → (((x3 = 0) → (P_X11_worst_39 Q v0 S1)) ∧ ((¬ x3 = 0) → (P_X11_isRoad v0 v2 (fun x7 S5 => Gr S1 S5 → bl x7 → (((x7 = 0) → (P_X11_worst_39 Q v0 S5)) ∧ ((¬ x7 = 0) → (P_X11_in v3 (0 : Int32) (1 : Int32) (fun x11 S9 => Gr S5 S9 → bl x11 → (((x11 = 0) → (P_X11_worst_39 Q v0 S9)) ∧ ((¬ x11 = 0) → (P_X11_isHour v0 v4 (fun x15 S13 => Gr S9 S13 → bl x15 → (((¬ x15 = 0) → (∃ a17 : Nat, fR S13 v0 3 = some a17 ∧ (ob S13 a17 10 ∧ (∃ a18 : Nat, fR S13 a17 24 = some a18 ∧ (ob S13 a18 13 ∧ (vp_in v1 (hN S13 a18) ∧ ∀ x20 : Int32, x20 = fI S13 a18 v1.toNatClampNeg → (∀ x21 : Int32, x21 = x20 + (1 : Int32) → (P_X11_worst_62 Q v0 v1 v2 v3 v4 x20 x21 S13)))))))) ∧ ((x15 = 0) → (P_X11_worst_39 Q v0 S13)))) S9)))) S5)))) S1)))) (sI S v0 0 (0 : Int32)))
set_option maxRecDepth 20000 in
set_option maxHeartbeats 4000000 in
theorem T_X11_worst_0 {X : CX} {Q : Int32 → HS → Prop} (C : Cx X cX11_worst RX11 7 rm_X11_worst) (E : ReI X rm_X11_worst Q) (ht : (xh X).sig.returnType = (some .int)) (hn : (xh X).name = yX11_worst.name) {v0 : Nat} {v1 : Int32} {v2 : Int32} {v3 : Int32} {v4 : Int32} {S : HS} (h : P_X11_worst_0 Q v0 v1 v2 v3 v4 S) : WS X 7 0 0 0 [(0, .ref v0), (1, .int v1), (2, .int v2), (3, .int v3), (4, .int v4)] [] S := by
  refine r_aload_n (pc := 0) C dX11_worst_0 0 rfl ?_
  refine r_iconst (pc := 1) C (v := (0 : Int32)) dX11_worst_1 (by decide) ?_
  obtain ⟨o_v0, h⟩ := h
  refine r_puti (pc := 2) C pfL_X11_40 dX11_worst_2 o_v0 ?_
  refine r_aload_n (pc := 5) C dX11_worst_5 0 rfl ?_
  refine r_iload_n (pc := 6) C dX11_worst_6 1 rfl ?_
  refine r_callVi0 (pc := 7) C (rest := []) (a := v0) o_v0 [.int v1] yV_X11_isWalker g_1538 (c_X11_isWalker h) dX11_worst_7 rfl rfl (by decide) ⟨by decide, by decide⟩ ⟨by decide, by decide⟩ ⟨rfl, rfl⟩ (fun x3 S1 h g2 => ?_)
  have bx3 := h.1
  have h := h.2 g2 bx3
  have o_v0 := gr_ob g2 o_v0
  refine r_if_eq (pc := 10) C (tgt := 39) dX11_worst_10 (by decide) (fun c4 => ?_) (fun c4 => ?_)
  · have h := h.1 c4
    exact r_sub [0] rfl (T_X11_worst_39 C E ht hn h)
  · have h := h.2 c4
    refine r_aload_n (pc := 13) C dX11_worst_13 0 rfl ?_
    refine r_iload_n (pc := 14) C dX11_worst_14 2 rfl ?_
    refine r_callVi0 (pc := 15) C (rest := []) (a := v0) o_v0 [.int v2] yV_X11_isRoad g_1542 (c_X11_isRoad h) dX11_worst_15 rfl rfl (by decide) ⟨by decide, by decide⟩ ⟨by decide, by decide⟩ ⟨rfl, rfl⟩ (fun x7 S5 h g6 => ?_)
    have bx7 := h.1
    have h := h.2 g6 bx7
    have o_v0 := gr_ob g6 o_v0
    refine r_if_eq (pc := 18) C (tgt := 39) dX11_worst_18 (by decide) (fun c8 => ?_) (fun c8 => ?_)
    · have h := h.1 c8
      exact r_sub [0] rfl (T_X11_worst_39 C E ht hn h)
    · have h := h.2 c8
      refine r_iload_n (pc := 21) C dX11_worst_21 3 rfl ?_
      refine r_iconst (pc := 22) C (v := (0 : Int32)) dX11_worst_22 (by decide) ?_
      refine r_iconst (pc := 23) C (v := (1 : Int32)) dX11_worst_23 (by decide) ?_
      refine r_callSi0 (pc := 24) C (rest := []) rfl [.int v3, .int (0 : Int32), .int (1 : Int32)] yS_X11_in g_1434 (c_X11_in h) dX11_worst_24 rfl rfl (by decide) ⟨by decide, by decide⟩ ⟨by decide, by decide⟩ ⟨rfl, rfl⟩ (fun x11 S9 h g10 => ?_)
      have bx11 := h.1
      have h := h.2 g10 bx11
      have o_v0 := gr_ob g10 o_v0
      refine r_if_eq (pc := 27) C (tgt := 39) dX11_worst_27 (by decide) (fun c12 => ?_) (fun c12 => ?_)
      · have h := h.1 c12
        exact r_sub [0] rfl (T_X11_worst_39 C E ht hn h)
      · have h := h.2 c12
        refine r_aload_n (pc := 30) C dX11_worst_30 0 rfl ?_
        refine r_iload (pc := 31) C dX11_worst_31 4 rfl ?_
        refine r_callVi0 (pc := 33) C (rest := []) (a := v0) o_v0 [.int v4] yV_X11_isHour g_1546 (c_X11_isHour h) dX11_worst_33 rfl rfl (by decide) ⟨by decide, by decide⟩ ⟨by decide, by decide⟩ ⟨rfl, rfl⟩ (fun x15 S13 h g14 => ?_)
        have bx15 := h.1
        have h := h.2 g14 bx15
        have o_v0 := gr_ob g14 o_v0
        refine r_if_ne (pc := 36) C (tgt := 45) dX11_worst_36 (by decide) (fun c16 => ?_) (fun c16 => ?_)
        · have h := h.1 c16
          refine r_aload_n (pc := 45) C dX11_worst_45 0 rfl ?_
          obtain ⟨a17, ea17, h⟩ := h
          refine r_getr (pc := 46) C fL_X11_338 dX11_worst_46 o_v0 ea17 ?_
          obtain ⟨o_a17, h⟩ := h
          obtain ⟨a18, ea18, h⟩ := h
          refine r_getNr (pc := 49) C fN_X11_317 dX11_worst_49 o_a17 ea18 ?_
          refine r_iload_n (pc := 52) C dX11_worst_52 1 rfl ?_
          obtain ⟨o_a18, h⟩ := h
          obtain ⟨i19, h⟩ := h
          refine r_iald (pc := 53) C dX11_worst_53 o_a18 i19 ?_
          refine r_topi (fun x20 ex20 => ?_)
          have h := h x20 ex20
          refine r_istore (pc := 54) C dX11_worst_54 (by decide) (lv' := [(5, .int x20), (0, .ref v0), (1, .int v1), (2, .int v2), (3, .int v3), (4, .int v4)]) rfl ?_
          refine r_iload (pc := 56) C dX11_worst_56 0 rfl ?_
          refine r_iconst (pc := 58) C (v := (1 : Int32)) dX11_worst_58 (by decide) ?_
          refine r_iadd (pc := 59) C dX11_worst_59 ?_
          refine r_topi (fun x21 ex21 => ?_)
          have h := h x21 ex21
          refine r_istore (pc := 60) C dX11_worst_60 (by decide) (lv' := [(6, .int x21), (5, .int x20), (0, .ref v0), (1, .int v1), (2, .int v2), (3, .int v3), (4, .int v4)]) rfl ?_
          exact r_sub [2, 3, 4, 5, 6, 1, 0] rfl (T_X11_worst_62 C E ht hn h)
        · have h := h.2 c16
          exact r_sub [0] rfl (T_X11_worst_39 C E ht hn h)
def P_X11_worst (v0 : Nat) (v1 : Int32) (v2 : Int32) (v3 : Int32) (v4 : Int32) (Q : Int32 → HS → Prop) (S : HS) : Prop := P_X11_worst_0 Q v0 v1 v2 v3 v4 S
theorem c_X11_worst {l : Launch} {Ee : EE} {S : HS} {v0 : Nat} {v1 : Int32} {v2 : Int32} {v3 : Int32} {v4 : Int32} {Q : Int32 → HS → Prop} (h : P_X11_worst v0 v1 v2 v3 v4 Q S) : MI l yX11_worst cX11_worst 7 (some .int) rm_X11_worst Ee S [.ref v0, .int v1, .int v2, .int v3, .int v4] Q :=
  openI (by decide) (by decide) (fun X C E ht hn hE hl => by subst hE; exact r_sub [0, 1, 2, 3, 4] rfl (T_X11_worst_0 C E ht hn h))
def rm_X5_turnOf : Room := { frames := 0, cells := 0, slots := 0, locals := 0 }
def P_X5_turnOf_17 (Q : Int32 → HS → Prop) (v2 : Nat) (s0 : Int32) (S : HS) : Prop := ob S v2 3 ∧ (∀ x1 : Int32, x1 = fI S v2 2 → (Q ((x1 - s0) &&& (3 : Int32)) S))
set_option maxRecDepth 20000 in
set_option maxHeartbeats 4000000 in
theorem T_X5_turnOf_17 {X : CX} {Q : Int32 → HS → Prop} (C : Cx X cX5_turnOf RX5 4 rm_X5_turnOf) (E : ReI X rm_X5_turnOf Q) (ht : (xh X).sig.returnType = (some .int)) (hn : (xh X).name = yX5_turnOf.name) {v2 : Nat} {s0 : Int32} {S : HS} (h : P_X5_turnOf_17 Q v2 s0 S) : WS X 4 0 0 17 [(2, .ref v2)] [.int s0] S := by
  refine r_istore_n (pc := 17) C dX5_turnOf_17 rfl (by decide) (lv' := [(3, .int s0), (2, .ref v2)]) rfl ?_
  refine r_aload_n (pc := 18) C dX5_turnOf_18 1 rfl ?_
  obtain ⟨o_v2, h⟩ := h
  refine r_geti (pc := 19) C fL_X5_22 dX5_turnOf_19 o_v2 ?_
  refine r_topi (fun x1 ex1 => ?_)
  have h := h x1 ex1
  refine r_iload_n (pc := 22) C dX5_turnOf_22 0 rfl ?_
  refine r_isub (pc := 23) C dX5_turnOf_23 ?_
  refine r_iconst (pc := 24) C (v := (3 : Int32)) dX5_turnOf_24 (by decide) ?_
  refine r_iand (pc := 25) C dX5_turnOf_25 ?_
  exact r_iret (pc := 26) C E ht dX5_turnOf_26 (by decide) (by decide) h
def P_X5_turnOf_0 (Q : Int32 → HS → Prop) (v0 : Nat) (v1 : Int32) (v2 : Nat) (S : HS) : Prop := ((¬ v1 = 0) → (ob S v0 5 ∧ (∀ x2 : Int32, x2 = fI S v0 2 → (P_X5_turnOf_17 Q v2 (x2 + (2 : Int32)) S)))) ∧ ((v1 = 0) → (ob S v0 5 ∧ (∀ x3 : Int32, x3 = fI S v0 2 → (P_X5_turnOf_17 Q v2 x3 S))))
set_option maxRecDepth 20000 in
set_option maxHeartbeats 4000000 in
theorem T_X5_turnOf_0 {X : CX} {Q : Int32 → HS → Prop} (C : Cx X cX5_turnOf RX5 4 rm_X5_turnOf) (E : ReI X rm_X5_turnOf Q) (ht : (xh X).sig.returnType = (some .int)) (hn : (xh X).name = yX5_turnOf.name) {v0 : Nat} {v1 : Int32} {v2 : Nat} {S : HS} (h : P_X5_turnOf_0 Q v0 v1 v2 S) : WS X 4 0 0 0 [(0, .ref v0), (1, .int v1), (2, .ref v2)] [] S := by
  refine r_iload_n (pc := 0) C dX5_turnOf_0 1 rfl ?_
  refine r_if_ne (pc := 1) C (tgt := 11) dX5_turnOf_1 (by decide) (fun c1 => ?_) (fun c1 => ?_)
  · have h := h.1 c1
    refine r_aload_n (pc := 11) C dX5_turnOf_11 0 rfl ?_
    obtain ⟨o_v0, h⟩ := h
    refine r_geti (pc := 12) C fL_X5_19 dX5_turnOf_12 o_v0 ?_
    refine r_topi (fun x2 ex2 => ?_)
    have h := h x2 ex2
    refine r_iconst (pc := 15) C (v := (2 : Int32)) dX5_turnOf_15 (by decide) ?_
    refine r_iadd (pc := 16) C dX5_turnOf_16 ?_
    exact r_sub [2] rfl (T_X5_turnOf_17 C E ht hn h)
  · have h := h.2 c1
    refine r_aload_n (pc := 4) C dX5_turnOf_4 0 rfl ?_
    obtain ⟨o_v0, h⟩ := h
    refine r_geti (pc := 5) C fL_X5_19 dX5_turnOf_5 o_v0 ?_
    refine r_topi (fun x3 ex3 => ?_)
    have h := h x3 ex3
    refine r_goto (pc := 8) C (tgt := 17) dX5_turnOf_8 (by decide) ?_
    exact r_sub [2] rfl (T_X5_turnOf_17 C E ht hn h)
def P_X5_turnOf (v0 : Nat) (v1 : Int32) (v2 : Nat) (Q : Int32 → HS → Prop) (S : HS) : Prop := P_X5_turnOf_0 Q v0 v1 v2 S
theorem c_X5_turnOf {l : Launch} {Ee : EE} {S : HS} {v0 : Nat} {v1 : Int32} {v2 : Nat} {Q : Int32 → HS → Prop} (h : P_X5_turnOf v0 v1 v2 Q S) : MI l yX5_turnOf cX5_turnOf 4 (some .int) rm_X5_turnOf Ee S [.ref v0, .int v1, .ref v2] Q :=
  openI (by decide) (by decide) (fun X C E ht hn hE hl => by subst hE; exact r_sub [0, 1, 2] rfl (T_X5_turnOf_0 C E ht hn h))
def rm_X5_airAlong : Room := { frames := 1, cells := 0, slots := 0, locals := 23 }
def P_X5_airAlong_0 (Q : Int32 → HS → Prop) (v0 : Nat) (v1 : Int32) (v2 : Nat) (S : HS) : Prop := ob S v0 5 ∧ (P_X5_turnOf v0 v1 v2 (fun x3 S1 => Gr S S1 → (((¬ x3 = 0) → (((¬ x3 = (2 : Int32)) → (Q (0 : Int32) S1)) ∧ ((x3 = (2 : Int32)) → (ob S1 v2 3 ∧ (∀ x6 : Int32, x6 = fI S1 v2 3 → (Q (-x6) S1)))))) ∧ ((x3 = 0) → (ob S1 v2 3 ∧ (∀ x7 : Int32, x7 = fI S1 v2 3 → (Q x7 S1)))))) S)
set_option maxRecDepth 20000 in
set_option maxHeartbeats 4000000 in
theorem T_X5_airAlong_0 {X : CX} {Q : Int32 → HS → Prop} (C : Cx X cX5_airAlong RX5 4 rm_X5_airAlong) (E : ReI X rm_X5_airAlong Q) (ht : (xh X).sig.returnType = (some .int)) (hn : (xh X).name = yX5_airAlong.name) {v0 : Nat} {v1 : Int32} {v2 : Nat} {S : HS} (h : P_X5_airAlong_0 Q v0 v1 v2 S) : WS X 4 0 0 0 [(0, .ref v0), (1, .int v1), (2, .ref v2)] [] S := by
  refine r_aload_n (pc := 0) C dX5_airAlong_0 0 rfl ?_
  refine r_iload_n (pc := 1) C dX5_airAlong_1 1 rfl ?_
  refine r_aload_n (pc := 2) C dX5_airAlong_2 2 rfl ?_
  obtain ⟨o_v0, h⟩ := h
  refine r_callVi0 (pc := 3) C (rest := []) (a := v0) o_v0 [.int v1, .ref v2] yV_X5_turnOf g_704 (c_X5_turnOf h) dX5_airAlong_3 rfl rfl (by decide) ⟨by decide, by decide⟩ ⟨by decide, by decide⟩ ⟨rfl, rfl⟩ (fun x3 S1 h g2 => ?_)
  have h := h g2
  have o_v0 := gr_ob g2 o_v0
  refine r_istore_n (pc := 6) C dX5_airAlong_6 rfl (by decide) (lv' := [(3, .int x3), (0, .ref v0), (1, .int v1), (2, .ref v2)]) rfl ?_
  refine r_iload_n (pc := 7) C dX5_airAlong_7 0 rfl ?_
  refine r_if_ne (pc := 8) C (tgt := 16) dX5_airAlong_8 (by decide) (fun c4 => ?_) (fun c4 => ?_)
  · have h := h.1 c4
    refine r_iload_n (pc := 16) C dX5_airAlong_16 0 rfl ?_
    refine r_iconst (pc := 17) C (v := (2 : Int32)) dX5_airAlong_17 (by decide) ?_
    refine r_icmp_ne (pc := 18) C (tgt := 29) dX5_airAlong_18 (by decide) (fun c5 => ?_) (fun c5 => ?_)
    · have h := h.1 c5
      refine r_iconst (pc := 29) C (v := (0 : Int32)) dX5_airAlong_29 (by decide) ?_
      exact r_iret (pc := 30) C E ht dX5_airAlong_30 (by decide) (by decide) h
    · have h := h.2 c5
      refine r_aload_n (pc := 21) C dX5_airAlong_21 3 rfl ?_
      obtain ⟨o_v2, h⟩ := h
      refine r_geti (pc := 22) C fL_X5_31 dX5_airAlong_22 o_v2 ?_
      refine r_topi (fun x6 ex6 => ?_)
      have h := h x6 ex6
      refine r_ineg (pc := 25) C dX5_airAlong_25 ?_
      refine r_goto (pc := 26) C (tgt := 30) dX5_airAlong_26 (by decide) ?_
      exact r_iret (pc := 30) C E ht dX5_airAlong_30 (by decide) (by decide) h
  · have h := h.2 c4
    refine r_aload_n (pc := 11) C dX5_airAlong_11 3 rfl ?_
    obtain ⟨o_v2, h⟩ := h
    refine r_geti (pc := 12) C fL_X5_31 dX5_airAlong_12 o_v2 ?_
    refine r_topi (fun x7 ex7 => ?_)
    have h := h x7 ex7
    exact r_iret (pc := 15) C E ht dX5_airAlong_15 (by decide) (by decide) h
def P_X5_airAlong (v0 : Nat) (v1 : Int32) (v2 : Nat) (Q : Int32 → HS → Prop) (S : HS) : Prop := P_X5_airAlong_0 Q v0 v1 v2 S
theorem c_X5_airAlong {l : Launch} {Ee : EE} {S : HS} {v0 : Nat} {v1 : Int32} {v2 : Nat} {Q : Int32 → HS → Prop} (h : P_X5_airAlong v0 v1 v2 Q S) : MI l yX5_airAlong cX5_airAlong 4 (some .int) rm_X5_airAlong Ee S [.ref v0, .int v1, .ref v2] Q :=
  openI (by decide) (by decide) (fun X C E ht hn hE hl => by subst hE; exact r_sub [0, 1, 2] rfl (T_X5_airAlong_0 C E ht hn h))
def rm_X1_lay : Room := { frames := 2, cells := 0, slots := 0, locals := 46 }
def P_X1_lay_130 (Q : HS → Prop) (v0 : Nat) (v3 : Nat) (v7 : Int64) (v9 : Int32) (s0 : Nat) (s1 : Int32) (s2 : Int64) (S : HS) : Prop := ob S s0 14 ∧ (vp_in s1 (hN S s0) ∧ (ob (sJ S s0 s1.toNatClampNeg s2) v0 1 ∧ (∃ a2 : Nat, fR (sJ S s0 s1.toNatClampNeg s2) v0 1 = some a2 ∧ (((¬ v9 = (3 : Int32)) → (ob (sJ S s0 s1.toNatClampNeg s2) a2 14 ∧ (vp_in (4 : Int32) (hN (sJ S s0 s1.toNatClampNeg s2) a2) ∧ (Q (sJ (sJ S s0 s1.toNatClampNeg s2) a2 (4 : Int32).toNatClampNeg (0 : Int64)))))) ∧ ((v9 = (3 : Int32)) → (ob (sJ S s0 s1.toNatClampNeg s2) v3 3 ∧ (∀ x5 : Int32, x5 = fI (sJ S s0 s1.toNatClampNeg s2) v3 3 → (ob (sJ S s0 s1.toNatClampNeg s2) a2 14 ∧ (∀ x7 : Int64, x7 = v7 * x5.toInt64 → (vp_in (4 : Int32) (hN (sJ S s0 s1.toNatClampNeg s2) a2) ∧ (Q (sJ (sJ S s0 s1.toNatClampNeg s2) a2 (4 : Int32).toNatClampNeg x7))))))))))))
set_option maxRecDepth 20000 in
set_option maxHeartbeats 4000000 in
theorem T_X1_lay_130 {X : CX} {Q : HS → Prop} (C : Cx X cX1_lay RX1 11 rm_X1_lay) (E : ReV X rm_X1_lay Q) (ht : (xh X).sig.returnType = none) (hn : (xh X).name = yX1_lay.name) {v0 : Nat} {v3 : Nat} {v7 : Int64} {v9 : Int32} {s0 : Nat} {s1 : Int32} {s2 : Int64} {S : HS} (h : P_X1_lay_130 Q v0 v3 v7 v9 s0 s1 s2 S) : WS X 11 0 0 130 [(0, .ref v0), (3, .ref v3), (7, .long v7), (9, .int v9)] [.long s2, .int s1, .ref s0] S := by
  obtain ⟨o_s0, h⟩ := h
  obtain ⟨i1, h⟩ := h
  refine r_last (pc := 130) C dX1_lay_130 o_s0 i1 ?_
  refine r_aload_n (pc := 131) C dX1_lay_131 0 rfl ?_
  obtain ⟨o_v0, h⟩ := h
  obtain ⟨a2, ea2, h⟩ := h
  refine r_getr (pc := 132) C fL_X1_15 dX1_lay_132 o_v0 ea2 ?_
  refine r_iconst (pc := 135) C (v := (4 : Int32)) dX1_lay_135 (by decide) ?_
  refine r_iload (pc := 136) C dX1_lay_136 3 rfl ?_
  refine r_iconst (pc := 138) C (v := (3 : Int32)) dX1_lay_138 (by decide) ?_
  refine r_icmp_ne (pc := 139) C (tgt := 153) dX1_lay_139 (by decide) (fun c3 => ?_) (fun c3 => ?_)
  · have h := h.1 c3
    refine r_lconst (pc := 153) C (v := (0 : Int64)) dX1_lay_153 (by decide) ?_
    obtain ⟨o_a2, h⟩ := h
    obtain ⟨i4, h⟩ := h
    refine r_last (pc := 154) C dX1_lay_154 o_a2 i4 ?_
    exact r_vret (pc := 155) C E ht dX1_lay_155 (by decide) (by decide) h
  · have h := h.2 c3
    refine r_lload (pc := 142) C dX1_lay_142 2 rfl ?_
    refine r_aload_n (pc := 144) C dX1_lay_144 1 rfl ?_
    obtain ⟨o_v3, h⟩ := h
    refine r_geti (pc := 145) C fL_X1_48 dX1_lay_145 o_v3 ?_
    refine r_topi (fun x5 ex5 => ?_)
    have h := h x5 ex5
    refine r_i2l (pc := 148) C dX1_lay_148 ?_
    refine r_lmul (pc := 149) C dX1_lay_149 ?_
    refine r_goto (pc := 150) C (tgt := 154) dX1_lay_150 (by decide) ?_
    obtain ⟨o_a2, h⟩ := h
    refine r_topl (fun x7 ex7 => ?_)
    have h := h x7 ex7
    obtain ⟨i6, h⟩ := h
    refine r_last (pc := 154) C dX1_lay_154 o_a2 i6 ?_
    exact r_vret (pc := 155) C E ht dX1_lay_155 (by decide) (by decide) h
def P_X1_lay_27 (Q : HS → Prop) (v0 : Nat) (v1 : Nat) (v2 : Int32) (v3 : Nat) (v4 : Int32) (s0 : Int64) (S : HS) : Prop := ob S v3 3 ∧ (∀ x1 : Int32, x1 = fI S v3 0 → (∀ x2 : Int64, x2 = x1.toInt64 * s0 → (ob S v1 5 ∧ (P_X5_turnOf v1 v2 v3 (fun x5 S3 => Gr S S3 → (P_X5_airAlong v1 v2 v3 (fun x8 S6 => Gr S3 S6 → (ob S6 v0 1 ∧ (∃ a9 : Nat, fR S6 v0 1 = some a9 ∧ (∀ x10 : Int32, x10 = fI S6 v3 1 → (ob S6 a9 14 ∧ (∀ x12 : Int64, x12 = x2 * x10.toInt64 → (vp_in (0 : Int32) (hN S6 a9) ∧ (∃ a13 : Nat, fR (sJ S6 a9 (0 : Int32).toNatClampNeg x12) v0 1 = some a13 ∧ (∀ x14 : Int32, x14 = (if v4 - x8 < (0 : Int32) then (0 : Int32) else v4 - x8) → (ob (sJ S6 a9 (0 : Int32).toNatClampNeg x12) a13 14 ∧ (∀ x16 : Int64, x16 = x2 * x14.toInt64 → (vp_in (1 : Int32) (hN (sJ S6 a9 (0 : Int32).toNatClampNeg x12) a13) ∧ (∃ a17 : Nat, fR (sJ (sJ S6 a9 (0 : Int32).toNatClampNeg x12) a13 (1 : Int32).toNatClampNeg x16) v0 1 = some a17 ∧ (∀ x18 : Int32, x18 = (if x8 - v4 < (0 : Int32) then (0 : Int32) else x8 - v4) → (ob (sJ (sJ S6 a9 (0 : Int32).toNatClampNeg x12) a13 (1 : Int32).toNatClampNeg x16) a17 14 ∧ (∀ x20 : Int64, x20 = x2 * x18.toInt64 → (vp_in (2 : Int32) (hN (sJ (sJ S6 a9 (0 : Int32).toNatClampNeg x12) a13 (1 : Int32).toNatClampNeg x16) a17) ∧ (∃ a21 : Nat, fR (sJ (sJ (sJ S6 a9 (0 : Int32).toNatClampNeg x12) a13 (1 : Int32).toNatClampNeg x16) a17 (2 : Int32).toNatClampNeg x20) v0 1 = some a21 ∧ (((¬ x5 = (1 : Int32)) → (P_X1_lay_130 Q v0 v3 x2 x5 a21 (3 : Int32) (0 : Int64) (sJ (sJ (sJ S6 a9 (0 : Int32).toNatClampNeg x12) a13 (1 : Int32).toNatClampNeg x16) a17 (2 : Int32).toNatClampNeg x20))) ∧ ((x5 = (1 : Int32)) → (∀ x23 : Int32, x23 = fI (sJ (sJ (sJ S6 a9 (0 : Int32).toNatClampNeg x12) a13 (1 : Int32).toNatClampNeg x16) a17 (2 : Int32).toNatClampNeg x20) v3 3 → (P_X1_lay_130 Q v0 v3 x2 x5 a21 (3 : Int32) (x2 * x23.toInt64) (sJ (sJ (sJ S6 a9 (0 : Int32).toNatClampNeg x12) a13 (1 : Int32).toNatClampNeg x16) a17 (2 : Int32).toNatClampNeg x20))))))))))))))))))))))) S3)) S))))
set_option maxRecDepth 20000 in
set_option maxHeartbeats 4000000 in
theorem T_X1_lay_27 {X : CX} {Q : HS → Prop} (C : Cx X cX1_lay RX1 11 rm_X1_lay) (E : ReV X rm_X1_lay Q) (ht : (xh X).sig.returnType = none) (hn : (xh X).name = yX1_lay.name) {v0 : Nat} {v1 : Nat} {v2 : Int32} {v3 : Nat} {v4 : Int32} {s0 : Int64} {S : HS} (h : P_X1_lay_27 Q v0 v1 v2 v3 v4 s0 S) : WS X 11 0 0 27 [(0, .ref v0), (1, .ref v1), (2, .int v2), (3, .ref v3), (4, .int v4)] [.long s0] S := by
  refine r_lstore (pc := 27) C dX1_lay_27 (by decide) (lv' := [(5, .long s0), (0, .ref v0), (1, .ref v1), (2, .int v2), (3, .ref v3), (4, .int v4)]) rfl ?_
  refine r_aload_n (pc := 29) C dX1_lay_29 4 rfl ?_
  obtain ⟨o_v3, h⟩ := h
  refine r_geti (pc := 30) C fL_X1_27 dX1_lay_30 o_v3 ?_
  refine r_topi (fun x1 ex1 => ?_)
  have h := h x1 ex1
  refine r_i2l (pc := 33) C dX1_lay_33 ?_
  refine r_lload (pc := 34) C dX1_lay_34 0 rfl ?_
  refine r_lmul (pc := 36) C dX1_lay_36 ?_
  refine r_topl (fun x2 ex2 => ?_)
  have h := h x2 ex2
  refine r_lstore (pc := 37) C dX1_lay_37 (by decide) (lv' := [(7, .long x2), (5, .long s0), (0, .ref v0), (1, .ref v1), (2, .int v2), (3, .ref v3), (4, .int v4)]) rfl ?_
  refine r_aload_n (pc := 39) C dX1_lay_39 3 rfl ?_
  refine r_iload_n (pc := 40) C dX1_lay_40 4 rfl ?_
  refine r_aload_n (pc := 41) C dX1_lay_41 5 rfl ?_
  obtain ⟨o_v1, h⟩ := h
  refine r_callVi0 (pc := 42) C (rest := []) (a := v1) o_v1 [.int v2, .ref v3] yV_X5_turnOf g_696 (c_X5_turnOf h) dX1_lay_42 rfl rfl (by decide) ⟨by decide, by decide⟩ ⟨by decide, by decide⟩ ⟨rfl, rfl⟩ (fun x5 S3 h g4 => ?_)
  have h := h g4
  have o_v1 := gr_ob g4 o_v1
  have o_v3 := gr_ob g4 o_v3
  refine r_istore (pc := 45) C dX1_lay_45 (by decide) (lv' := [(9, .int x5), (7, .long x2), (5, .long s0), (0, .ref v0), (1, .ref v1), (2, .int v2), (3, .ref v3), (4, .int v4)]) rfl ?_
  refine r_aload_n (pc := 47) C dX1_lay_47 4 rfl ?_
  refine r_iload_n (pc := 48) C dX1_lay_48 5 rfl ?_
  refine r_aload_n (pc := 49) C dX1_lay_49 6 rfl ?_
  refine r_callVi0 (pc := 50) C (rest := []) (a := v1) o_v1 [.int v2, .ref v3] yV_X5_airAlong g_700 (c_X5_airAlong h) dX1_lay_50 rfl rfl (by decide) ⟨by decide, by decide⟩ ⟨by decide, by decide⟩ ⟨rfl, rfl⟩ (fun x8 S6 h g7 => ?_)
  have h := h g7
  have o_v1 := gr_ob g7 o_v1
  have o_v3 := gr_ob g7 o_v3
  refine r_istore (pc := 53) C dX1_lay_53 (by decide) (lv' := [(10, .int x8), (9, .int x5), (7, .long x2), (5, .long s0), (0, .ref v0), (1, .ref v1), (2, .int v2), (3, .ref v3), (4, .int v4)]) rfl ?_
  refine r_aload_n (pc := 55) C dX1_lay_55 4 rfl ?_
  obtain ⟨o_v0, h⟩ := h
  obtain ⟨a9, ea9, h⟩ := h
  refine r_getr (pc := 56) C fL_X1_15 dX1_lay_56 o_v0 ea9 ?_
  refine r_iconst (pc := 59) C (v := (0 : Int32)) dX1_lay_59 (by decide) ?_
  refine r_lload (pc := 60) C dX1_lay_60 2 rfl ?_
  refine r_aload_n (pc := 62) C dX1_lay_62 7 rfl ?_
  refine r_geti (pc := 63) C fL_X1_39 dX1_lay_63 o_v3 ?_
  refine r_topi (fun x10 ex10 => ?_)
  have h := h x10 ex10
  refine r_i2l (pc := 66) C dX1_lay_66 ?_
  refine r_lmul (pc := 67) C dX1_lay_67 ?_
  obtain ⟨o_a9, h⟩ := h
  refine r_topl (fun x12 ex12 => ?_)
  have h := h x12 ex12
  obtain ⟨i11, h⟩ := h
  refine r_last (pc := 68) C dX1_lay_68 o_a9 i11 ?_
  refine r_aload_n (pc := 69) C dX1_lay_69 4 rfl ?_
  obtain ⟨a13, ea13, h⟩ := h
  refine r_getr (pc := 70) C fL_X1_15 dX1_lay_70 o_v0 ea13 ?_
  refine r_iconst (pc := 73) C (v := (1 : Int32)) dX1_lay_73 (by decide) ?_
  refine r_lload (pc := 74) C dX1_lay_74 2 rfl ?_
  refine r_iload (pc := 76) C dX1_lay_76 8 rfl ?_
  refine r_iload (pc := 78) C dX1_lay_78 0 rfl ?_
  refine r_isub (pc := 80) C dX1_lay_80 ?_
  refine r_iconst (pc := 81) C (v := (0 : Int32)) dX1_lay_81 (by decide) ?_
  refine r_max (pc := 82) C g_705 dX1_lay_82 (by decide) (by decide) (by decide) (by decide) ?_
  refine r_topi (fun x14 ex14 => ?_)
  have h := h x14 ex14
  refine r_i2l (pc := 85) C dX1_lay_85 ?_
  refine r_lmul (pc := 86) C dX1_lay_86 ?_
  obtain ⟨o_a13, h⟩ := h
  refine r_topl (fun x16 ex16 => ?_)
  have h := h x16 ex16
  obtain ⟨i15, h⟩ := h
  refine r_last (pc := 87) C dX1_lay_87 o_a13 i15 ?_
  refine r_aload_n (pc := 88) C dX1_lay_88 4 rfl ?_
  obtain ⟨a17, ea17, h⟩ := h
  refine r_getr (pc := 89) C fL_X1_15 dX1_lay_89 o_v0 ea17 ?_
  refine r_iconst (pc := 92) C (v := (2 : Int32)) dX1_lay_92 (by decide) ?_
  refine r_lload (pc := 93) C dX1_lay_93 2 rfl ?_
  refine r_iload (pc := 95) C dX1_lay_95 0 rfl ?_
  refine r_iload (pc := 97) C dX1_lay_97 8 rfl ?_
  refine r_isub (pc := 99) C dX1_lay_99 ?_
  refine r_iconst (pc := 100) C (v := (0 : Int32)) dX1_lay_100 (by decide) ?_
  refine r_max (pc := 101) C g_705 dX1_lay_101 (by decide) (by decide) (by decide) (by decide) ?_
  refine r_topi (fun x18 ex18 => ?_)
  have h := h x18 ex18
  refine r_i2l (pc := 104) C dX1_lay_104 ?_
  refine r_lmul (pc := 105) C dX1_lay_105 ?_
  obtain ⟨o_a17, h⟩ := h
  refine r_topl (fun x20 ex20 => ?_)
  have h := h x20 ex20
  obtain ⟨i19, h⟩ := h
  refine r_last (pc := 106) C dX1_lay_106 o_a17 i19 ?_
  refine r_aload_n (pc := 107) C dX1_lay_107 4 rfl ?_
  obtain ⟨a21, ea21, h⟩ := h
  refine r_getr (pc := 108) C fL_X1_15 dX1_lay_108 o_v0 ea21 ?_
  refine r_iconst (pc := 111) C (v := (3 : Int32)) dX1_lay_111 (by decide) ?_
  refine r_iload (pc := 112) C dX1_lay_112 1 rfl ?_
  refine r_iconst (pc := 114) C (v := (1 : Int32)) dX1_lay_114 (by decide) ?_
  refine r_icmp_ne (pc := 115) C (tgt := 129) dX1_lay_115 (by decide) (fun c22 => ?_) (fun c22 => ?_)
  · have h := h.1 c22
    refine r_lconst (pc := 129) C (v := (0 : Int64)) dX1_lay_129 (by decide) ?_
    exact r_sub [4, 7, 2, 1] rfl (T_X1_lay_130 C E ht hn h)
  · have h := h.2 c22
    refine r_lload (pc := 118) C dX1_lay_118 2 rfl ?_
    refine r_aload_n (pc := 120) C dX1_lay_120 7 rfl ?_
    refine r_geti (pc := 121) C fL_X1_48 dX1_lay_121 o_v3 ?_
    refine r_topi (fun x23 ex23 => ?_)
    have h := h x23 ex23
    refine r_i2l (pc := 124) C dX1_lay_124 ?_
    refine r_lmul (pc := 125) C dX1_lay_125 ?_
    refine r_goto (pc := 126) C (tgt := 130) dX1_lay_126 (by decide) ?_
    exact r_sub [4, 7, 2, 1] rfl (T_X1_lay_130 C E ht hn h)
def P_X1_lay_0 (Q : HS → Prop) (v0 : Nat) (v1 : Nat) (v2 : Int32) (v3 : Nat) (v4 : Int32) (S : HS) : Prop := ((v4 ≤ 0) → (P_X1_lay_27 Q v0 v1 v2 v3 v4 (0 : Int64) S)) ∧ ((¬ v4 ≤ 0) → (ob S v1 5 ∧ (∀ x2 : Int32, x2 = fI S v1 3 → (∀ x3 : Int32, x3 = fI S v1 4 → (¬ v4 = 0 ∧ ∀ x5 : Int32, x5 = (2520 : Int32) / v4 → (P_X1_lay_27 Q v0 v1 v2 v3 v4 (((x2 - x3).toInt64) * x5.toInt64) S))))))
set_option maxRecDepth 20000 in
set_option maxHeartbeats 4000000 in
theorem T_X1_lay_0 {X : CX} {Q : HS → Prop} (C : Cx X cX1_lay RX1 11 rm_X1_lay) (E : ReV X rm_X1_lay Q) (ht : (xh X).sig.returnType = none) (hn : (xh X).name = yX1_lay.name) {v0 : Nat} {v1 : Nat} {v2 : Int32} {v3 : Nat} {v4 : Int32} {S : HS} (h : P_X1_lay_0 Q v0 v1 v2 v3 v4 S) : WS X 11 0 0 0 [(0, .ref v0), (1, .ref v1), (2, .int v2), (3, .ref v3), (4, .int v4)] [] S := by
  refine r_iload (pc := 0) C dX1_lay_0 4 rfl ?_
  refine r_if_le (pc := 2) C (tgt := 26) dX1_lay_2 (by decide) (fun c1 => ?_) (fun c1 => ?_)
  · have h := h.1 c1
    refine r_lconst (pc := 26) C (v := (0 : Int64)) dX1_lay_26 (by decide) ?_
    exact r_sub [0, 1, 2, 3, 4] rfl (T_X1_lay_27 C E ht hn h)
  · have h := h.2 c1
    refine r_aload_n (pc := 5) C dX1_lay_5 1 rfl ?_
    obtain ⟨o_v1, h⟩ := h
    refine r_geti (pc := 6) C fL_X1_18 dX1_lay_6 o_v1 ?_
    refine r_topi (fun x2 ex2 => ?_)
    have h := h x2 ex2
    refine r_aload_n (pc := 9) C dX1_lay_9 1 rfl ?_
    refine r_geti (pc := 10) C fL_X1_24 dX1_lay_10 o_v1 ?_
    refine r_topi (fun x3 ex3 => ?_)
    have h := h x3 ex3
    refine r_isub (pc := 13) C dX1_lay_13 ?_
    refine r_i2l (pc := 14) C dX1_lay_14 ?_
    refine r_sipush (pc := 15) C (v := (2520 : Int32)) dX1_lay_15 (by decide) ?_
    refine r_iload (pc := 18) C dX1_lay_18 4 rfl ?_
    obtain ⟨q4, h⟩ := h
    refine r_idiv (pc := 20) C dX1_lay_20 q4 ?_
    refine r_topi (fun x5 ex5 => ?_)
    have h := h x5 ex5
    refine r_i2l (pc := 21) C dX1_lay_21 ?_
    refine r_lmul (pc := 22) C dX1_lay_22 ?_
    refine r_goto (pc := 23) C (tgt := 27) dX1_lay_23 (by decide) ?_
    exact r_sub [0, 1, 2, 3, 4] rfl (T_X1_lay_27 C E ht hn h)
def P_X1_lay (v0 : Nat) (v1 : Nat) (v2 : Int32) (v3 : Nat) (v4 : Int32) (Q : HS → Prop) (S : HS) : Prop := P_X1_lay_0 Q v0 v1 v2 v3 v4 S
theorem c_X1_lay {l : Launch} {Ee : EE} {S : HS} {v0 : Nat} {v1 : Nat} {v2 : Int32} {v3 : Nat} {v4 : Int32} {Q : HS → Prop} (h : P_X1_lay v0 v1 v2 v3 v4 Q S) : MV l yX1_lay cX1_lay 11 none rm_X1_lay Ee S [.ref v0, .ref v1, .int v2, .ref v3, .int v4] Q :=
  openV (by decide) (by decide) (fun X C E ht hn hE hl => by subst hE; exact r_sub [0, 1, 2, 3, 4] rfl (T_X1_lay_0 C E ht hn h))
