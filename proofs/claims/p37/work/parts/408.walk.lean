def rm_X11_where : Room := { frames := 0, cells := 0, slots := 0, locals := 0 }
def P_X11_where_0 (Q : Int32 → HS → Prop) (v0 : Nat) (S : HS) : Prop := ob S v0 11 ∧ (∀ S1 : HS, S1 = sI S v0 0 (0 : Int32) → (∀ x2 : Int32, x2 = fI S1 v0 2 → (Q x2 S1)))
set_option maxRecDepth 20000 in
set_option maxHeartbeats 4000000 in
theorem T_X11_where_0 {X : CX} {Q : Int32 → HS → Prop} (C : Cx X cX11_where RX11 1 rm_X11_where) (E : ReI X rm_X11_where Q) (ht : (xh X).sig.returnType = (some .int)) (hn : (xh X).name = yX11_where.name) {v0 : Nat} {S : HS} (h : P_X11_where_0 Q v0 S) : WS X 1 0 0 0 [(0, .ref v0)] [] S := by
  refine r_aload_n (pc := 0) C dX11_where_0 0 rfl ?_
  refine r_iconst (pc := 1) C (v := (0 : Int32)) dX11_where_1 (by decide) ?_
  obtain ⟨o_v0, h⟩ := h
  refine r_puti (pc := 2) C pfL_X11_40 dX11_where_2 o_v0 ?_
  refine r_heap (fun S1 eS1 => ?_)
  have h := h S1 eS1
  have o_v0 := ob_I eS1 o_v0
  refine r_aload_n (pc := 5) C dX11_where_5 0 rfl ?_
  refine r_geti (pc := 6) C fL_X11_9 dX11_where_6 o_v0 ?_
  refine r_topi (fun x2 ex2 => ?_)
  have h := h x2 ex2
  exact r_iret (pc := 9) C E ht dX11_where_9 (by decide) (by decide) h
def P_X11_where (v0 : Nat) (Q : Int32 → HS → Prop) (S : HS) : Prop := P_X11_where_0 Q v0 S
theorem c_X11_where {l : Launch} {Ee : EE} {S : HS} {v0 : Nat} {Q : Int32 → HS → Prop} (h : P_X11_where v0 Q S) : MI l yX11_where cX11_where 1 (some .int) rm_X11_where Ee S [.ref v0] Q :=
  openI (by decide) (Nat.le_of_ble_eq_true rfl) (fun X C E ht hn hE hl => by subst hE; exact r_sub [0] rfl (T_X11_where_0 C E ht hn h))
def rm_X11_world : Room := { frames := 12, cells := 25, slots := 225, locals := 280 }
def P_X11_world_17 (Q : Int32 → HS → Prop) (v0 : Nat) (S : HS) : Prop := ob S v0 11 ∧ (P_X11_refused v0 (2 : Int32) (fun x3 S1 => Gr S S1 → (Q x3 S1)) S)
set_option maxRecDepth 20000 in
set_option maxHeartbeats 4000000 in
theorem T_X11_world_17 {X : CX} {Q : Int32 → HS → Prop} (C : Cx X cX11_world RX11 2 rm_X11_world) (E : ReI X rm_X11_world Q) (ht : (xh X).sig.returnType = (some .int)) (hn : (xh X).name = yX11_world.name) {v0 : Nat} {S : HS} (h : P_X11_world_17 Q v0 S) : WS X 2 0 0 17 [(0, .ref v0)] [] S := by
  refine r_aload_n (pc := 17) C dX11_world_17 0 rfl ?_
  refine r_iconst (pc := 18) C (v := (2 : Int32)) dX11_world_18 (by decide) ?_
  obtain ⟨o_v0, h⟩ := h
  refine r_callVi0 (pc := 19) C (rest := []) (a := v0) o_v0 [.int (2 : Int32)] yV_X11_refused g_1250 (c_X11_refused h) dX11_world_19 rfl rfl (Nat.le_of_ble_eq_true rfl) ⟨by decide, by decide⟩ ⟨by decide, by decide⟩ ⟨rfl, rfl⟩ (fun x3 S1 h g2 => ?_)
  have h := h g2
  have o_v0 := gr_ob g2 o_v0
  exact r_iret (pc := 22) C E ht dX11_world_22 (by decide) (by decide) h
def P_X11_world_0 (Q : Int32 → HS → Prop) (v0 : Nat) (v1 : Int32) (S : HS) : Prop := ob S v0 11 ∧ (∀ S1 : HS, S1 = sI S v0 0 (0 : Int32) → (((v1 < 0) → (P_X11_world_17 Q v0 S1)) ∧ ((¬ v1 < 0) → (∀ x3 : Int32, x3 = fI S1 v0 6 → (((v1 ≤ x3) → (∀ S5 : HS, S5 = sI S1 v0 7 v1 → (∀ S6 : HS, S6 = sI S5 v0 6 (0 : Int32) → (∀ S7 : HS, S7 = sI S6 v0 8 (0 : Int32) → (∀ S8 : HS, S8 = sI S7 v0 13 (0 : Int32) → (∀ a9 : Nat, a9 ∉ hL S8 → ∀ S10 : HS, S10 = nW S8 a9 10 0 → (P_X10_init a9 (fun S11 => Gr S10 S11 → (∀ S14 : HS, S14 = sR S11 v0 4 (some a9) → (∀ S15 : HS, S15 = sI S14 v0 9 (0 : Int32) → (P_X11_goesOn v0 (fun S16 => Gr S15 S16 → (P_X11_readAll v0 (fun S19 => Gr S16 S19 → (∀ x22 : Int32, x22 = fI S19 v0 13 → (((x22 ≤ 0) → (∃ a24 : Nat, fR S19 v0 4 = some a24 ∧ (∀ S25 : HS, S25 = sR S19 v0 3 (some a24) → (∀ S26 : HS, S26 = sI S25 v0 19 (-2 : Int32) → (∀ S27 : HS, S27 = sI S26 v0 24 (0 : Int32) → (∀ S28 : HS, S28 = sI S27 v0 25 (0 : Int32) → (∃ a29 : Nat, fR S28 v0 3 = some a29 ∧ (ob S28 a29 10 ∧ (∀ x30 : Int32, x30 = fI S28 a29 4 → (P_X11_good v0 x30 (fun x33 S31 => Gr S28 S31 → (Q x33 S31)) S28)))))))))) ∧ ((¬ x22 ≤ 0) → (∀ S34 : HS, S34 = sI S19 v0 1 (4 : Int32) → (∀ x35 : Int32, x35 = fI S34 v0 14 → (∀ S36 : HS, S36 = sI S34 v0 2 x35 → (Q (-1 : Int32) S36)))))))) S16)) S15)))) S10))))))) ∧ ((¬ v1 ≤ x3) → (P_X11_world_17 Q v0 S1)))))))
set_option maxRecDepth 20000 in
set_option maxHeartbeats 4000000 in
theorem T_X11_world_0 {X : CX} {Q : Int32 → HS → Prop} (C : Cx X cX11_world RX11 2 rm_X11_world) (E : ReI X rm_X11_world Q) (ht : (xh X).sig.returnType = (some .int)) (hn : (xh X).name = yX11_world.name) {v0 : Nat} {v1 : Int32} {S : HS} (h : P_X11_world_0 Q v0 v1 S) : WS X 2 0 0 0 [(0, .ref v0), (1, .int v1)] [] S := by
  refine r_aload_n (pc := 0) C dX11_world_0 0 rfl ?_
  refine r_iconst (pc := 1) C (v := (0 : Int32)) dX11_world_1 (by decide) ?_
  obtain ⟨o_v0, h⟩ := h
  refine r_puti (pc := 2) C pfL_X11_40 dX11_world_2 o_v0 ?_
  refine r_heap (fun S1 eS1 => ?_)
  have h := h S1 eS1
  have o_v0 := ob_I eS1 o_v0
  refine r_iload_n (pc := 5) C dX11_world_5 1 rfl ?_
  refine r_if_lt (pc := 6) C (tgt := 17) dX11_world_6 (by decide) (fun c2 => ?_) (fun c2 => ?_)
  · have h := h.1 c2
    exact r_sub [0] rfl (T_X11_world_17 C E ht hn h)
  · have h := h.2 c2
    refine r_iload_n (pc := 9) C dX11_world_9 1 rfl ?_
    refine r_aload_n (pc := 10) C dX11_world_10 0 rfl ?_
    refine r_geti (pc := 11) C fL_X11_331 dX11_world_11 o_v0 ?_
    refine r_topi (fun x3 ex3 => ?_)
    have h := h x3 ex3
    refine r_icmp_le (pc := 14) C (tgt := 23) dX11_world_14 (by decide) (fun c4 => ?_) (fun c4 => ?_)
    · have h := h.1 c4
      refine r_aload_n (pc := 23) C dX11_world_23 0 rfl ?_
      refine r_iload_n (pc := 24) C dX11_world_24 1 rfl ?_
      refine r_puti (pc := 25) C pfL_X11_53 dX11_world_25 o_v0 ?_
      refine r_heap (fun S5 eS5 => ?_)
      have h := h S5 eS5
      have o_v0 := ob_I eS5 o_v0
      refine r_aload_n (pc := 28) C dX11_world_28 0 rfl ?_
      refine r_iconst (pc := 29) C (v := (0 : Int32)) dX11_world_29 (by decide) ?_
      refine r_puti (pc := 30) C pfL_X11_331 dX11_world_30 o_v0 ?_
      refine r_heap (fun S6 eS6 => ?_)
      have h := h S6 eS6
      have o_v0 := ob_I eS6 o_v0
      refine r_aload_n (pc := 33) C dX11_world_33 0 rfl ?_
      refine r_iconst (pc := 34) C (v := (0 : Int32)) dX11_world_34 (by decide) ?_
      refine r_puti (pc := 35) C pfL_X11_71 dX11_world_35 o_v0 ?_
      refine r_heap (fun S7 eS7 => ?_)
      have h := h S7 eS7
      have o_v0 := ob_I eS7 o_v0
      refine r_aload_n (pc := 38) C dX11_world_38 0 rfl ?_
      refine r_iconst (pc := 39) C (v := (0 : Int32)) dX11_world_39 (by decide) ?_
      refine r_puti (pc := 40) C pfL_X11_97 dX11_world_40 o_v0 ?_
      refine r_heap (fun S8 eS8 => ?_)
      have h := h S8 eS8
      have o_v0 := ob_I eS8 o_v0
      refine r_aload_n (pc := 43) C dX11_world_43 0 rfl ?_
      refine r_new (pc := 44) C nc_X11_152 dX11_world_44 (by decide) (by decide) (fun a9 q37 => ?_)
      refine r_heap (fun S10 eS10 => ?_)
      have h := h a9 q37 S10 eS10
      have g38 := gr_of_new eS10 q37
      have o_a9 := ob_of_new eS10
      have o_v0 := gr_ob g38 o_v0
      refine r_dup (pc := 47) C dX11_world_47 rfl ?_
      refine r_callNv (pc := 48) C (rest := [.ref a9, .ref v0]) (a := a9) [] yI_X10_init (List.mem_of_getElem? (i := 7) rfl) (c_X10_init h) dX11_world_48 rfl rfl (Nat.le_of_ble_eq_true rfl) ⟨by decide, by decide⟩ ⟨by decide, by decide⟩ (fun S11 h g12 => ?_)
      have h := h g12
      have o_a9 := gr_ob g12 o_a9
      have o_v0 := gr_ob g12 o_v0
      refine r_putr (pc := 51) C pfL_X11_147 dX11_world_51 o_v0 ?_
      refine r_heap (fun S14 eS14 => ?_)
      have h := h S14 eS14
      have o_a9 := ob_R eS14 o_a9
      have o_v0 := ob_R eS14 o_v0
      refine r_aload_n (pc := 54) C dX11_world_54 0 rfl ?_
      refine r_iconst (pc := 55) C (v := (0 : Int32)) dX11_world_55 (by decide) ?_
      refine r_puti (pc := 56) C pfL_X11_68 dX11_world_56 o_v0 ?_
      refine r_heap (fun S15 eS15 => ?_)
      have h := h S15 eS15
      have o_a9 := ob_I eS15 o_a9
      have o_v0 := ob_I eS15 o_v0
      refine r_aload_n (pc := 59) C dX11_world_59 0 rfl ?_
      refine r_callVv0 (pc := 60) C (rest := []) (a := v0) o_v0 [] yV_X11_goesOn g_1380 (c_X11_goesOn h) dX11_world_60 rfl rfl (Nat.le_of_ble_eq_true rfl) ⟨by decide, by decide⟩ ⟨by decide, by decide⟩ ⟨rfl, rfl⟩ (fun S16 h g17 => ?_)
      have h := h g17
      have o_a9 := gr_ob g17 o_a9
      have o_v0 := gr_ob g17 o_v0
      refine r_aload_n (pc := 63) C dX11_world_63 0 rfl ?_
      refine r_callVv0 (pc := 64) C (rest := []) (a := v0) o_v0 [] yV_X11_readAll g_1395 (c_X11_readAll h) dX11_world_64 rfl rfl (Nat.le_of_ble_eq_true rfl) ⟨by decide, by decide⟩ ⟨by decide, by decide⟩ ⟨rfl, rfl⟩ (fun S19 h g20 => ?_)
      have h := h g20
      have o_a9 := gr_ob g20 o_a9
      have o_v0 := gr_ob g20 o_v0
      refine r_aload_n (pc := 67) C dX11_world_67 0 rfl ?_
      refine r_geti (pc := 68) C fL_X11_97 dX11_world_68 o_v0 ?_
      refine r_topi (fun x22 ex22 => ?_)
      have h := h x22 ex22
      refine r_if_le (pc := 71) C (tgt := 89) dX11_world_71 (by decide) (fun c23 => ?_) (fun c23 => ?_)
      · have h := h.1 c23
        refine r_aload_n (pc := 89) C dX11_world_89 0 rfl ?_
        refine r_aload_n (pc := 90) C dX11_world_90 0 rfl ?_
        obtain ⟨a24, ea24, h⟩ := h
        refine r_getr (pc := 91) C fL_X11_147 dX11_world_91 o_v0 ea24 ?_
        refine r_putr (pc := 94) C pfL_X11_338 dX11_world_94 o_v0 ?_
        refine r_heap (fun S25 eS25 => ?_)
        have h := h S25 eS25
        have o_a9 := ob_R eS25 o_a9
        have o_v0 := ob_R eS25 o_v0
        refine r_aload_n (pc := 97) C dX11_world_97 0 rfl ?_
        refine r_bipush (pc := 98) C (v := (-2 : Int32)) dX11_world_98 (by decide) ?_
        refine r_puti (pc := 100) C pfL_X11_28 dX11_world_100 o_v0 ?_
        refine r_heap (fun S26 eS26 => ?_)
        have h := h S26 eS26
        have o_a9 := ob_I eS26 o_a9
        have o_v0 := ob_I eS26 o_v0
        refine r_aload_n (pc := 103) C dX11_world_103 0 rfl ?_
        refine r_iconst (pc := 104) C (v := (0 : Int32)) dX11_world_104 (by decide) ?_
        refine r_puti (pc := 105) C pfL_X11_340 dX11_world_105 o_v0 ?_
        refine r_heap (fun S27 eS27 => ?_)
        have h := h S27 eS27
        have o_a9 := ob_I eS27 o_a9
        have o_v0 := ob_I eS27 o_v0
        refine r_aload_n (pc := 108) C dX11_world_108 0 rfl ?_
        refine r_iconst (pc := 109) C (v := (0 : Int32)) dX11_world_109 (by decide) ?_
        refine r_puti (pc := 110) C pfL_X11_343 dX11_world_110 o_v0 ?_
        refine r_heap (fun S28 eS28 => ?_)
        have h := h S28 eS28
        have o_a9 := ob_I eS28 o_a9
        have o_v0 := ob_I eS28 o_v0
        refine r_aload_n (pc := 113) C dX11_world_113 0 rfl ?_
        refine r_aload_n (pc := 114) C dX11_world_114 0 rfl ?_
        obtain ⟨a29, ea29, h⟩ := h
        refine r_getr (pc := 115) C fL_X11_338 dX11_world_115 o_v0 ea29 ?_
        obtain ⟨o_a29, h⟩ := h
        refine r_getNi (pc := 118) C fN_X11_193 dX11_world_118 o_a29 ?_
        refine r_topi (fun x30 ex30 => ?_)
        have h := h x30 ex30
        refine r_callVi0 (pc := 121) C (rest := []) (a := v0) o_v0 [.int x30] yV_X11_good g_1518 (c_X11_good h) dX11_world_121 rfl rfl (Nat.le_of_ble_eq_true rfl) ⟨by decide, by decide⟩ ⟨by decide, by decide⟩ ⟨rfl, rfl⟩ (fun x33 S31 h g32 => ?_)
        have h := h g32
        have o_a29 := gr_ob g32 o_a29
        have o_a9 := gr_ob g32 o_a9
        have o_v0 := gr_ob g32 o_v0
        exact r_iret (pc := 124) C E ht dX11_world_124 (by decide) (by decide) h
      · have h := h.2 c23
        refine r_aload_n (pc := 74) C dX11_world_74 0 rfl ?_
        refine r_iconst (pc := 75) C (v := (4 : Int32)) dX11_world_75 (by decide) ?_
        refine r_puti (pc := 76) C pfL_X11_43 dX11_world_76 o_v0 ?_
        refine r_heap (fun S34 eS34 => ?_)
        have h := h S34 eS34
        have o_a9 := ob_I eS34 o_a9
        have o_v0 := ob_I eS34 o_v0
        refine r_aload_n (pc := 79) C dX11_world_79 0 rfl ?_
        refine r_aload_n (pc := 80) C dX11_world_80 0 rfl ?_
        refine r_geti (pc := 81) C fL_X11_100 dX11_world_81 o_v0 ?_
        refine r_topi (fun x35 ex35 => ?_)
        have h := h x35 ex35
        refine r_puti (pc := 84) C pfL_X11_9 dX11_world_84 o_v0 ?_
        refine r_heap (fun S36 eS36 => ?_)
        have h := h S36 eS36
        have o_a9 := ob_I eS36 o_a9
        have o_v0 := ob_I eS36 o_v0
        refine r_iconst (pc := 87) C (v := (-1 : Int32)) dX11_world_87 (by decide) ?_
        exact r_iret (pc := 88) C E ht dX11_world_88 (by decide) (by decide) h
    · have h := h.2 c4
      exact r_sub [0] rfl (T_X11_world_17 C E ht hn h)
def P_X11_world (v0 : Nat) (v1 : Int32) (Q : Int32 → HS → Prop) (S : HS) : Prop := P_X11_world_0 Q v0 v1 S
theorem c_X11_world {l : Launch} {Ee : EE} {S : HS} {v0 : Nat} {v1 : Int32} {Q : Int32 → HS → Prop} (h : P_X11_world v0 v1 Q S) : MI l yX11_world cX11_world 2 (some .int) rm_X11_world Ee S [.ref v0, .int v1] Q :=
  openI (by decide) (Nat.le_of_ble_eq_true rfl) (fun X C E ht hn hE hl => by subst hE; exact r_sub [0, 1] rfl (T_X11_world_0 C E ht hn h))
def rm_X11_worst : Room := { frames := 6, cells := 0, slots := 0, locals := 163 }
def P_X11_worst_39 (Q : Int32 → HS → Prop) (v0 : Nat) (S : HS) : Prop := ob S v0 11 ∧ (P_X11_refused v0 (1 : Int32) (fun x3 S1 => Gr S S1 → (Q x3 S1)) S)
set_option maxRecDepth 20000 in
set_option maxHeartbeats 4000000 in
theorem T_X11_worst_39 {X : CX} {Q : Int32 → HS → Prop} (C : Cx X cX11_worst RX11 7 rm_X11_worst) (E : ReI X rm_X11_worst Q) (ht : (xh X).sig.returnType = (some .int)) (hn : (xh X).name = yX11_worst.name) {v0 : Nat} {S : HS} (h : P_X11_worst_39 Q v0 S) : WS X 7 0 0 39 [(0, .ref v0)] [] S := by
  refine r_aload_n (pc := 39) C dX11_worst_39 0 rfl ?_
  refine r_iconst (pc := 40) C (v := (1 : Int32)) dX11_worst_40 (by decide) ?_
  obtain ⟨o_v0, h⟩ := h
  refine r_callVi0 (pc := 41) C (rest := []) (a := v0) o_v0 [.int (1 : Int32)] yV_X11_refused g_1250 (c_X11_refused h) dX11_worst_41 rfl rfl (Nat.le_of_ble_eq_true rfl) ⟨by decide, by decide⟩ ⟨by decide, by decide⟩ ⟨rfl, rfl⟩ (fun x3 S1 h g2 => ?_)
  have h := h g2
  have o_v0 := gr_ob g2 o_v0
  exact r_iret (pc := 44) C E ht dX11_worst_44 (by decide) (by decide) h
def P_X11_worst_106 (Q : Int32 → HS → Prop) (X62 : Nat → Int32 → Int32 → Int32 → Int32 → Int32 → Int32 → HS → Prop) (v0 : Nat) (v1 : Int32) (v2 : Int32) (v3 : Int32) (v4 : Int32) (v5 : Int32) (v6 : Int32) (S : HS) : Prop := ∀ x1 : Int32, x1 = v6 + (1 : Int32) → (X62 v0 v1 v2 v3 v4 v5 x1 S)
set_option maxRecDepth 20000 in
set_option maxHeartbeats 4000000 in
theorem T_X11_worst_106 {X : CX} {Q : Int32 → HS → Prop} (C : Cx X cX11_worst RX11 7 rm_X11_worst) (E : ReI X rm_X11_worst Q) (ht : (xh X).sig.returnType = (some .int)) (hn : (xh X).name = yX11_worst.name) {X62 : Nat → Int32 → Int32 → Int32 → Int32 → Int32 → Int32 → HS → Prop} (hX62 : ∀ (v0 : Nat) (v1 : Int32) (v2 : Int32) (v3 : Int32) (v4 : Int32) (v5 : Int32) (v6 : Int32) (S : HS), X62 v0 v1 v2 v3 v4 v5 v6 S → WS X 7 0 0 62 [(0, .ref v0), (1, .int v1), (2, .int v2), (3, .int v3), (4, .int v4), (5, .int v5), (6, .int v6)] [] S) {v0 : Nat} {v1 : Int32} {v2 : Int32} {v3 : Int32} {v4 : Int32} {v5 : Int32} {v6 : Int32} {S : HS} (h : P_X11_worst_106 Q X62 v0 v1 v2 v3 v4 v5 v6 S) : WS X 7 0 0 106 [(0, .ref v0), (1, .int v1), (2, .int v2), (3, .int v3), (4, .int v4), (5, .int v5), (6, .int v6)] [] S := by
  obtain ⟨x1, ex1⟩ : ∃ z : Int32, z = v6 + (1 : Int32) := ⟨_, rfl⟩
  have h := h x1 ex1
  refine r_iinc (pc := 106) C (v := x1) (lv' := [(6, .int x1), (0, .ref v0), (1, .int v1), (2, .int v2), (3, .int v3), (4, .int v4), (5, .int v5)]) dX11_worst_106 6 rfl ex1.symm (by decide) rfl ?_
  refine r_goto (pc := 109) C (tgt := 62) dX11_worst_109 (by decide) ?_
  exact r_sub [1, 2, 3, 4, 5, 6, 0] rfl (hX62 v0 v1 v2 v3 v4 v5 x1 S h)
def B_X11_worst_62 (Q : Int32 → HS → Prop) (X62 : Nat → Int32 → Int32 → Int32 → Int32 → Int32 → Int32 → HS → Prop) (v0 : Nat) (v1 : Int32) (v2 : Int32) (v3 : Int32) (v4 : Int32) (v5 : Int32) (v6 : Int32) (S : HS) : Prop := ob S v0 11 ∧ (∃ a1 : Nat, fR S v0 3 = some a1 ∧ (ob S a1 10 ∧ (∃ a2 : Nat, fR S a1 25 = some a2 ∧ (ob S a2 13 ∧ (vp_in v1 (hN S a2) ∧ ∀ x4 : Int32, x4 = fI S a2 v1.toNatClampNeg → (((x4 < v6) → (P_X11_good v0 v5 (fun x8 S6 => Gr S S6 → (Q x8 S6)) S)) ∧ ((¬ x4 < v6) → (P_X11_wetOf v0 v1 v2 v3 v4 v6 (fun x11 S9 => Gr S S9 → (P_X11_wetOf v0 v1 v2 v3 v4 v5 (fun x14 S12 => Gr S9 S12 → ((((lg_cmp x11 x14) ≤ 0) → (P_X11_worst_106 Q X62 v0 v1 v2 v3 v4 v5 v6 S12)) ∧ ((¬ (lg_cmp x11 x14) ≤ 0) → (P_X11_worst_106 Q X62 v0 v1 v2 v3 v4 v6 v6 S12)))) S9)) S))))))))
def P_X11_worst_62 (Q : Int32 → HS → Prop) (v0 : Nat) (v1 : Int32) (v2 : Int32) (v3 : Int32) (v4 : Int32) (v5 : Int32) (v6 : Int32) (S : HS) : Prop := ∀ X62 : Nat → Int32 → Int32 → Int32 → Int32 → Int32 → Int32 → HS → Prop, (∀ (v0 : Nat) (v1 : Int32) (v2 : Int32) (v3 : Int32) (v4 : Int32) (v5 : Int32) (v6 : Int32) (S : HS), B_X11_worst_62 Q X62 v0 v1 v2 v3 v4 v5 v6 S → X62 v0 v1 v2 v3 v4 v5 v6 S) → X62 v0 v1 v2 v3 v4 v5 v6 S
set_option maxRecDepth 20000 in
set_option maxHeartbeats 4000000 in
theorem TB_X11_worst_62 {X : CX} {Q : Int32 → HS → Prop} (C : Cx X cX11_worst RX11 7 rm_X11_worst) (E : ReI X rm_X11_worst Q) (ht : (xh X).sig.returnType = (some .int)) (hn : (xh X).name = yX11_worst.name) {X62 : Nat → Int32 → Int32 → Int32 → Int32 → Int32 → Int32 → HS → Prop} (hX62 : ∀ (v0 : Nat) (v1 : Int32) (v2 : Int32) (v3 : Int32) (v4 : Int32) (v5 : Int32) (v6 : Int32) (S : HS), X62 v0 v1 v2 v3 v4 v5 v6 S → WS X 7 0 0 62 [(0, .ref v0), (1, .int v1), (2, .int v2), (3, .int v3), (4, .int v4), (5, .int v5), (6, .int v6)] [] S) {v0 : Nat} {v1 : Int32} {v2 : Int32} {v3 : Int32} {v4 : Int32} {v5 : Int32} {v6 : Int32} {S : HS} (h : B_X11_worst_62 Q X62 v0 v1 v2 v3 v4 v5 v6 S) : WS X 7 0 0 62 [(0, .ref v0), (1, .int v1), (2, .int v2), (3, .int v3), (4, .int v4), (5, .int v5), (6, .int v6)] [] S := by
  refine r_iload (pc := 62) C dX11_worst_62 6 rfl ?_
  refine r_aload_n (pc := 64) C dX11_worst_64 0 rfl ?_
  obtain ⟨o_v0, h⟩ := h
  obtain ⟨a1, ea1, h⟩ := h
  refine r_getr (pc := 65) C fL_X11_338 dX11_worst_65 o_v0 ea1 ?_
  obtain ⟨o_a1, h⟩ := h
  obtain ⟨a2, ea2, h⟩ := h
  refine r_getNr (pc := 68) C fN_X11_320 dX11_worst_68 o_a1 ea2 ?_
  refine r_iload_n (pc := 71) C dX11_worst_71 1 rfl ?_
  obtain ⟨o_a2, h⟩ := h
  obtain ⟨i3, h⟩ := h
  refine r_iald (pc := 72) C dX11_worst_72 o_a2 i3 ?_
  refine r_topi (fun x4 ex4 => ?_)
  have h := h x4 ex4
  refine r_icmp_gt (pc := 73) C (tgt := 112) dX11_worst_73 (by decide) (fun c5 => ?_) (fun c5 => ?_)
  · have h := h.1 c5
    refine r_aload_n (pc := 112) C dX11_worst_112 0 rfl ?_
    refine r_iload (pc := 113) C dX11_worst_113 5 rfl ?_
    refine r_callVi0 (pc := 115) C (rest := []) (a := v0) o_v0 [.int v5] yV_X11_good g_1518 (c_X11_good h) dX11_worst_115 rfl rfl (Nat.le_of_ble_eq_true rfl) ⟨by decide, by decide⟩ ⟨by decide, by decide⟩ ⟨rfl, rfl⟩ (fun x8 S6 h g7 => ?_)
    have h := h g7
    have o_a1 := gr_ob g7 o_a1
    have o_a2 := gr_ob g7 o_a2
    have o_v0 := gr_ob g7 o_v0
    exact r_iret (pc := 118) C E ht dX11_worst_118 (by decide) (by decide) h
  · have h := h.2 c5
    refine r_aload_n (pc := 76) C dX11_worst_76 0 rfl ?_
    refine r_iload_n (pc := 77) C dX11_worst_77 1 rfl ?_
    refine r_iload_n (pc := 78) C dX11_worst_78 2 rfl ?_
    refine r_iload_n (pc := 79) C dX11_worst_79 3 rfl ?_
    refine r_iload (pc := 80) C dX11_worst_80 4 rfl ?_
    refine r_iload (pc := 82) C dX11_worst_82 6 rfl ?_
    refine r_callVl0 (pc := 84) C (rest := []) (a := v0) o_v0 [.int v1, .int v2, .int v3, .int v4, .int v6] yV_X11_wetOf g_1594 (c_X11_wetOf h) dX11_worst_84 rfl rfl (Nat.le_of_ble_eq_true rfl) ⟨by decide, by decide⟩ ⟨by decide, by decide⟩ ⟨rfl, rfl⟩ (fun x11 S9 h g10 => ?_)
    have h := h g10
    have o_a1 := gr_ob g10 o_a1
    have o_a2 := gr_ob g10 o_a2
    have o_v0 := gr_ob g10 o_v0
    refine r_aload_n (pc := 87) C dX11_worst_87 0 rfl ?_
    refine r_iload_n (pc := 88) C dX11_worst_88 1 rfl ?_
    refine r_iload_n (pc := 89) C dX11_worst_89 2 rfl ?_
    refine r_iload_n (pc := 90) C dX11_worst_90 3 rfl ?_
    refine r_iload (pc := 91) C dX11_worst_91 4 rfl ?_
    refine r_iload (pc := 93) C dX11_worst_93 5 rfl ?_
    refine r_callVl0 (pc := 95) C (rest := [.long x11]) (a := v0) o_v0 [.int v1, .int v2, .int v3, .int v4, .int v5] yV_X11_wetOf g_1594 (c_X11_wetOf h) dX11_worst_95 rfl rfl (Nat.le_of_ble_eq_true rfl) ⟨by decide, by decide⟩ ⟨by decide, by decide⟩ ⟨rfl, rfl⟩ (fun x14 S12 h g13 => ?_)
    have h := h g13
    have o_a1 := gr_ob g13 o_a1
    have o_a2 := gr_ob g13 o_a2
    have o_v0 := gr_ob g13 o_v0
    refine r_lcmp (pc := 98) C dX11_worst_98 ?_
    refine r_if_le (pc := 99) C (tgt := 106) dX11_worst_99 (by decide) (fun c15 => ?_) (fun c15 => ?_)
    · have h := h.1 c15
      exact r_sub [0, 1, 2, 3, 4, 5, 6] rfl (T_X11_worst_106 C E ht hn hX62 h)
    · have h := h.2 c15
      refine r_iload (pc := 102) C dX11_worst_102 6 rfl ?_
      refine r_istore (pc := 104) C dX11_worst_104 (by decide) (lv' := [(5, .int v6), (0, .ref v0), (1, .int v1), (2, .int v2), (3, .int v3), (4, .int v4), (6, .int v6)]) rfl ?_
      exact r_sub [1, 2, 3, 4, 5, 0, 6] rfl (T_X11_worst_106 C E ht hn hX62 h)
theorem T_X11_worst_62 {X : CX} {Q : Int32 → HS → Prop} (C : Cx X cX11_worst RX11 7 rm_X11_worst) (E : ReI X rm_X11_worst Q) (ht : (xh X).sig.returnType = (some .int)) (hn : (xh X).name = yX11_worst.name) {v0 : Nat} {v1 : Int32} {v2 : Int32} {v3 : Int32} {v4 : Int32} {v5 : Int32} {v6 : Int32} {S : HS} (h : P_X11_worst_62 Q v0 v1 v2 v3 v4 v5 v6 S) : WS X 7 0 0 62 [(0, .ref v0), (1, .int v1), (2, .int v2), (3, .int v3), (4, .int v4), (5, .int v5), (6, .int v6)] [] S :=
  h (fun v0 v1 v2 v3 v4 v5 v6 S => WS X 7 0 0 62 [(0, .ref v0), (1, .int v1), (2, .int v2), (3, .int v3), (4, .int v4), (5, .int v5), (6, .int v6)] [] S) (fun v0 v1 v2 v3 v4 v5 v6 S hh => TB_X11_worst_62 C E ht hn (fun v0 v1 v2 v3 v4 v5 v6 S z => z) hh)
def P_X11_worst_0 (Q : Int32 → HS → Prop) (v0 : Nat) (v1 : Int32) (v2 : Int32) (v3 : Int32) (v4 : Int32) (S : HS) : Prop := ob S v0 11 ∧ (∀ S1 : HS, S1 = sI S v0 0 (0 : Int32) → (P_X11_isWalker v0 v1 (fun x4 S2 => Gr S1 S2 → bl x4 → (((x4 = 0) → (P_X11_worst_39 Q v0 S2)) ∧ ((¬ x4 = 0) → (P_X11_isRoad v0 v2 (fun x8 S6 => Gr S2 S6 → bl x8 → (((x8 = 0) → (P_X11_worst_39 Q v0 S6)) ∧ ((¬ x8 = 0) → (P_X11_in v3 (0 : Int32) (1 : Int32) (fun x12 S10 => Gr S6 S10 → bl x12 → (((x12 = 0) → (P_X11_worst_39 Q v0 S10)) ∧ ((¬ x12 = 0) → (P_X11_isHour v0 v4 (fun x16 S14 => Gr S10 S14 → bl x16 → (((¬ x16 = 0) → (∃ a18 : Nat, fR S14 v0 3 = some a18 ∧ (ob S14 a18 10 ∧ (∃ a19 : Nat, fR S14 a18 24 = some a19 ∧ (ob S14 a19 13 ∧ (vp_in v1 (hN S14 a19) ∧ ∀ x21 : Int32, x21 = fI S14 a19 v1.toNatClampNeg → (∀ x22 : Int32, x22 = x21 + (1 : Int32) → (P_X11_worst_62 Q v0 v1 v2 v3 v4 x21 x22 S14)))))))) ∧ ((x16 = 0) → (P_X11_worst_39 Q v0 S14)))) S10)))) S6)))) S2)))) S1))
set_option maxRecDepth 20000 in
set_option maxHeartbeats 4000000 in
theorem T_X11_worst_0 {X : CX} {Q : Int32 → HS → Prop} (C : Cx X cX11_worst RX11 7 rm_X11_worst) (E : ReI X rm_X11_worst Q) (ht : (xh X).sig.returnType = (some .int)) (hn : (xh X).name = yX11_worst.name) {v0 : Nat} {v1 : Int32} {v2 : Int32} {v3 : Int32} {v4 : Int32} {S : HS} (h : P_X11_worst_0 Q v0 v1 v2 v3 v4 S) : WS X 7 0 0 0 [(0, .ref v0), (1, .int v1), (2, .int v2), (3, .int v3), (4, .int v4)] [] S := by
  refine r_aload_n (pc := 0) C dX11_worst_0 0 rfl ?_
  refine r_iconst (pc := 1) C (v := (0 : Int32)) dX11_worst_1 (by decide) ?_
  obtain ⟨o_v0, h⟩ := h
  refine r_puti (pc := 2) C pfL_X11_40 dX11_worst_2 o_v0 ?_
  refine r_heap (fun S1 eS1 => ?_)
  have h := h S1 eS1
  have o_v0 := ob_I eS1 o_v0
  refine r_aload_n (pc := 5) C dX11_worst_5 0 rfl ?_
  refine r_iload_n (pc := 6) C dX11_worst_6 1 rfl ?_
  refine r_callVi0 (pc := 7) C (rest := []) (a := v0) o_v0 [.int v1] yV_X11_isWalker g_1538 (c_X11_isWalker h) dX11_worst_7 rfl rfl (Nat.le_of_ble_eq_true rfl) ⟨by decide, by decide⟩ ⟨by decide, by decide⟩ ⟨rfl, rfl⟩ (fun x4 S2 h g3 => ?_)
  have bx4 := h.1
  have h := h.2 g3 bx4
  have o_v0 := gr_ob g3 o_v0
  refine r_if_eq (pc := 10) C (tgt := 39) dX11_worst_10 (by decide) (fun c5 => ?_) (fun c5 => ?_)
  · have h := h.1 c5
    exact r_sub [0] rfl (T_X11_worst_39 C E ht hn h)
  · have h := h.2 c5
    refine r_aload_n (pc := 13) C dX11_worst_13 0 rfl ?_
    refine r_iload_n (pc := 14) C dX11_worst_14 2 rfl ?_
    refine r_callVi0 (pc := 15) C (rest := []) (a := v0) o_v0 [.int v2] yV_X11_isRoad g_1542 (c_X11_isRoad h) dX11_worst_15 rfl rfl (Nat.le_of_ble_eq_true rfl) ⟨by decide, by decide⟩ ⟨by decide, by decide⟩ ⟨rfl, rfl⟩ (fun x8 S6 h g7 => ?_)
    have bx8 := h.1
    have h := h.2 g7 bx8
    have o_v0 := gr_ob g7 o_v0
    refine r_if_eq (pc := 18) C (tgt := 39) dX11_worst_18 (by decide) (fun c9 => ?_) (fun c9 => ?_)
    · have h := h.1 c9
      exact r_sub [0] rfl (T_X11_worst_39 C E ht hn h)
    · have h := h.2 c9
      refine r_iload_n (pc := 21) C dX11_worst_21 3 rfl ?_
      refine r_iconst (pc := 22) C (v := (0 : Int32)) dX11_worst_22 (by decide) ?_
      refine r_iconst (pc := 23) C (v := (1 : Int32)) dX11_worst_23 (by decide) ?_
      refine r_callSi0 (pc := 24) C (rest := []) rfl [.int v3, .int (0 : Int32), .int (1 : Int32)] yS_X11_in g_1434 (c_X11_in h) dX11_worst_24 rfl rfl (Nat.le_of_ble_eq_true rfl) ⟨by decide, by decide⟩ ⟨by decide, by decide⟩ ⟨rfl, rfl⟩ (fun x12 S10 h g11 => ?_)
      have bx12 := h.1
      have h := h.2 g11 bx12
      have o_v0 := gr_ob g11 o_v0
      refine r_if_eq (pc := 27) C (tgt := 39) dX11_worst_27 (by decide) (fun c13 => ?_) (fun c13 => ?_)
      · have h := h.1 c13
        exact r_sub [0] rfl (T_X11_worst_39 C E ht hn h)
      · have h := h.2 c13
        refine r_aload_n (pc := 30) C dX11_worst_30 0 rfl ?_
        refine r_iload (pc := 31) C dX11_worst_31 4 rfl ?_
        refine r_callVi0 (pc := 33) C (rest := []) (a := v0) o_v0 [.int v4] yV_X11_isHour g_1546 (c_X11_isHour h) dX11_worst_33 rfl rfl (Nat.le_of_ble_eq_true rfl) ⟨by decide, by decide⟩ ⟨by decide, by decide⟩ ⟨rfl, rfl⟩ (fun x16 S14 h g15 => ?_)
        have bx16 := h.1
        have h := h.2 g15 bx16
        have o_v0 := gr_ob g15 o_v0
        refine r_if_ne (pc := 36) C (tgt := 45) dX11_worst_36 (by decide) (fun c17 => ?_) (fun c17 => ?_)
        · have h := h.1 c17
          refine r_aload_n (pc := 45) C dX11_worst_45 0 rfl ?_
          obtain ⟨a18, ea18, h⟩ := h
          refine r_getr (pc := 46) C fL_X11_338 dX11_worst_46 o_v0 ea18 ?_
          obtain ⟨o_a18, h⟩ := h
          obtain ⟨a19, ea19, h⟩ := h
          refine r_getNr (pc := 49) C fN_X11_317 dX11_worst_49 o_a18 ea19 ?_
          refine r_iload_n (pc := 52) C dX11_worst_52 1 rfl ?_
          obtain ⟨o_a19, h⟩ := h
          obtain ⟨i20, h⟩ := h
          refine r_iald (pc := 53) C dX11_worst_53 o_a19 i20 ?_
          refine r_topi (fun x21 ex21 => ?_)
          have h := h x21 ex21
          refine r_istore (pc := 54) C dX11_worst_54 (by decide) (lv' := [(5, .int x21), (0, .ref v0), (1, .int v1), (2, .int v2), (3, .int v3), (4, .int v4)]) rfl ?_
          refine r_iload (pc := 56) C dX11_worst_56 0 rfl ?_
          refine r_iconst (pc := 58) C (v := (1 : Int32)) dX11_worst_58 (by decide) ?_
          refine r_iadd (pc := 59) C dX11_worst_59 ?_
          refine r_topi (fun x22 ex22 => ?_)
          have h := h x22 ex22
          refine r_istore (pc := 60) C dX11_worst_60 (by decide) (lv' := [(6, .int x22), (5, .int x21), (0, .ref v0), (1, .int v1), (2, .int v2), (3, .int v3), (4, .int v4)]) rfl ?_
          exact r_sub [2, 3, 4, 5, 6, 1, 0] rfl (T_X11_worst_62 C E ht hn h)
        · have h := h.2 c17
          exact r_sub [0] rfl (T_X11_worst_39 C E ht hn h)
def P_X11_worst (v0 : Nat) (v1 : Int32) (v2 : Int32) (v3 : Int32) (v4 : Int32) (Q : Int32 → HS → Prop) (S : HS) : Prop := P_X11_worst_0 Q v0 v1 v2 v3 v4 S
theorem c_X11_worst {l : Launch} {Ee : EE} {S : HS} {v0 : Nat} {v1 : Int32} {v2 : Int32} {v3 : Int32} {v4 : Int32} {Q : Int32 → HS → Prop} (h : P_X11_worst v0 v1 v2 v3 v4 Q S) : MI l yX11_worst cX11_worst 7 (some .int) rm_X11_worst Ee S [.ref v0, .int v1, .int v2, .int v3, .int v4] Q :=
  openI (by decide) (Nat.le_of_ble_eq_true rfl) (fun X C E ht hn hE hl => by subst hE; exact r_sub [0, 1, 2, 3, 4] rfl (T_X11_worst_0 C E ht hn h))
def rm_X5_turnOf : Room := { frames := 0, cells := 0, slots := 0, locals := 0 }
def P_X5_turnOf_17 (Q : Int32 → HS → Prop) (v2 : Nat) (s0 : Int32) (S : HS) : Prop := ob S v2 3 ∧ (∀ x1 : Int32, x1 = fI S v2 2 → (Q ((x1 - s0) &&& (3 : Int32)) S))
set_option maxRecDepth 20000 in
set_option maxHeartbeats 4000000 in
theorem T_X5_turnOf_17 {X : CX} {Q : Int32 → HS → Prop} (C : Cx X cX5_turnOf RX5 4 rm_X5_turnOf) (E : ReI X rm_X5_turnOf Q) (ht : (xh X).sig.returnType = (some .int)) (hn : (xh X).name = yX5_turnOf.name) {v2 : Nat} {s0 : Int32} {S : HS} (h : P_X5_turnOf_17 Q v2 s0 S) : WS X 4 0 0 17 [(2, .ref v2)] [.int s0] S := by
  refine r_istore_n (pc := 17) C dX5_turnOf_17 rfl (by decide) (lv' := [(3, .int s0), (2, .ref v2)]) rfl ?_
  refine r_aload_n (pc := 18) C dX5_turnOf_18 1 rfl ?_
  obtain ⟨o_v2, h⟩ := h
  refine r_geti (pc := 19) C fL_X5_22 dX5_turnOf_19 o_v2 ?_
  refine r_topi (fun x1 ex1 => ?_)
  have h := h x1 ex1
  refine r_iload_n (pc := 22) C dX5_turnOf_22 0 rfl ?_
  refine r_isub (pc := 23) C dX5_turnOf_23 ?_
  refine r_iconst (pc := 24) C (v := (3 : Int32)) dX5_turnOf_24 (by decide) ?_
  refine r_iand (pc := 25) C dX5_turnOf_25 ?_
  exact r_iret (pc := 26) C E ht dX5_turnOf_26 (by decide) (by decide) h
def P_X5_turnOf_0 (Q : Int32 → HS → Prop) (v0 : Nat) (v1 : Int32) (v2 : Nat) (S : HS) : Prop := ((¬ v1 = 0) → (ob S v0 5 ∧ (∀ x2 : Int32, x2 = fI S v0 2 → (P_X5_turnOf_17 Q v2 (x2 + (2 : Int32)) S)))) ∧ ((v1 = 0) → (ob S v0 5 ∧ (∀ x3 : Int32, x3 = fI S v0 2 → (P_X5_turnOf_17 Q v2 x3 S))))
set_option maxRecDepth 20000 in
set_option maxHeartbeats 4000000 in
theorem T_X5_turnOf_0 {X : CX} {Q : Int32 → HS → Prop} (C : Cx X cX5_turnOf RX5 4 rm_X5_turnOf) (E : ReI X rm_X5_turnOf Q) (ht : (xh X).sig.returnType = (some .int)) (hn : (xh X).name = yX5_turnOf.name) {v0 : Nat} {v1 : Int32} {v2 : Nat} {S : HS} (h : P_X5_turnOf_0 Q v0 v1 v2 S) : WS X 4 0 0 0 [(0, .ref v0), (1, .int v1), (2, .ref v2)] [] S := by
  refine r_iload_n (pc := 0) C dX5_turnOf_0 1 rfl ?_
  refine r_if_ne (pc := 1) C (tgt := 11) dX5_turnOf_1 (by decide) (fun c1 => ?_) (fun c1 => ?_)
  · have h := h.1 c1
    refine r_aload_n (pc := 11) C dX5_turnOf_11 0 rfl ?_
    obtain ⟨o_v0, h⟩ := h
    refine r_geti (pc := 12) C fL_X5_19 dX5_turnOf_12 o_v0 ?_
    refine r_topi (fun x2 ex2 => ?_)
    have h := h x2 ex2
    refine r_iconst (pc := 15) C (v := (2 : Int32)) dX5_turnOf_15 (by decide) ?_
    refine r_iadd (pc := 16) C dX5_turnOf_16 ?_
    exact r_sub [2] rfl (T_X5_turnOf_17 C E ht hn h)
  · have h := h.2 c1
    refine r_aload_n (pc := 4) C dX5_turnOf_4 0 rfl ?_
    obtain ⟨o_v0, h⟩ := h
    refine r_geti (pc := 5) C fL_X5_19 dX5_turnOf_5 o_v0 ?_
    refine r_topi (fun x3 ex3 => ?_)
    have h := h x3 ex3
    refine r_goto (pc := 8) C (tgt := 17) dX5_turnOf_8 (by decide) ?_
    exact r_sub [2] rfl (T_X5_turnOf_17 C E ht hn h)
def P_X5_turnOf (v0 : Nat) (v1 : Int32) (v2 : Nat) (Q : Int32 → HS → Prop) (S : HS) : Prop := P_X5_turnOf_0 Q v0 v1 v2 S
theorem c_X5_turnOf {l : Launch} {Ee : EE} {S : HS} {v0 : Nat} {v1 : Int32} {v2 : Nat} {Q : Int32 → HS → Prop} (h : P_X5_turnOf v0 v1 v2 Q S) : MI l yX5_turnOf cX5_turnOf 4 (some .int) rm_X5_turnOf Ee S [.ref v0, .int v1, .ref v2] Q :=
  openI (by decide) (Nat.le_of_ble_eq_true rfl) (fun X C E ht hn hE hl => by subst hE; exact r_sub [0, 1, 2] rfl (T_X5_turnOf_0 C E ht hn h))
def rm_X5_airAlong : Room := { frames := 1, cells := 0, slots := 0, locals := 23 }
def P_X5_airAlong_0 (Q : Int32 → HS → Prop) (v0 : Nat) (v1 : Int32) (v2 : Nat) (S : HS) : Prop := ob S v0 5 ∧ (P_X5_turnOf v0 v1 v2 (fun x3 S1 => Gr S S1 → (((¬ x3 = 0) → (((¬ x3 = (2 : Int32)) → (Q (0 : Int32) S1)) ∧ ((x3 = (2 : Int32)) → (ob S1 v2 3 ∧ (∀ x6 : Int32, x6 = fI S1 v2 3 → (Q (-x6) S1)))))) ∧ ((x3 = 0) → (ob S1 v2 3 ∧ (∀ x7 : Int32, x7 = fI S1 v2 3 → (Q x7 S1)))))) S)
set_option maxRecDepth 20000 in
set_option maxHeartbeats 4000000 in
theorem T_X5_airAlong_0 {X : CX} {Q : Int32 → HS → Prop} (C : Cx X cX5_airAlong RX5 4 rm_X5_airAlong) (E : ReI X rm_X5_airAlong Q) (ht : (xh X).sig.returnType = (some .int)) (hn : (xh X).name = yX5_airAlong.name) {v0 : Nat} {v1 : Int32} {v2 : Nat} {S : HS} (h : P_X5_airAlong_0 Q v0 v1 v2 S) : WS X 4 0 0 0 [(0, .ref v0), (1, .int v1), (2, .ref v2)] [] S := by
  refine r_aload_n (pc := 0) C dX5_airAlong_0 0 rfl ?_
  refine r_iload_n (pc := 1) C dX5_airAlong_1 1 rfl ?_
  refine r_aload_n (pc := 2) C dX5_airAlong_2 2 rfl ?_
  obtain ⟨o_v0, h⟩ := h
  refine r_callVi0 (pc := 3) C (rest := []) (a := v0) o_v0 [.int v1, .ref v2] yV_X5_turnOf g_704 (c_X5_turnOf h) dX5_airAlong_3 rfl rfl (Nat.le_of_ble_eq_true rfl) ⟨by decide, by decide⟩ ⟨by decide, by decide⟩ ⟨rfl, rfl⟩ (fun x3 S1 h g2 => ?_)
  have h := h g2
  have o_v0 := gr_ob g2 o_v0
  refine r_istore_n (pc := 6) C dX5_airAlong_6 rfl (by decide) (lv' := [(3, .int x3), (0, .ref v0), (1, .int v1), (2, .ref v2)]) rfl ?_
  refine r_iload_n (pc := 7) C dX5_airAlong_7 0 rfl ?_
  refine r_if_ne (pc := 8) C (tgt := 16) dX5_airAlong_8 (by decide) (fun c4 => ?_) (fun c4 => ?_)
  · have h := h.1 c4
    refine r_iload_n (pc := 16) C dX5_airAlong_16 0 rfl ?_
    refine r_iconst (pc := 17) C (v := (2 : Int32)) dX5_airAlong_17 (by decide) ?_
    refine r_icmp_ne (pc := 18) C (tgt := 29) dX5_airAlong_18 (by decide) (fun c5 => ?_) (fun c5 => ?_)
    · have h := h.1 c5
      refine r_iconst (pc := 29) C (v := (0 : Int32)) dX5_airAlong_29 (by decide) ?_
      exact r_iret (pc := 30) C E ht dX5_airAlong_30 (by decide) (by decide) h
    · have h := h.2 c5
      refine r_aload_n (pc := 21) C dX5_airAlong_21 3 rfl ?_
      obtain ⟨o_v2, h⟩ := h
      refine r_geti (pc := 22) C fL_X5_31 dX5_airAlong_22 o_v2 ?_
      refine r_topi (fun x6 ex6 => ?_)
      have h := h x6 ex6
      refine r_ineg (pc := 25) C dX5_airAlong_25 ?_
      refine r_goto (pc := 26) C (tgt := 30) dX5_airAlong_26 (by decide) ?_
      exact r_iret (pc := 30) C E ht dX5_airAlong_30 (by decide) (by decide) h
  · have h := h.2 c4
    refine r_aload_n (pc := 11) C dX5_airAlong_11 3 rfl ?_
    obtain ⟨o_v2, h⟩ := h
    refine r_geti (pc := 12) C fL_X5_31 dX5_airAlong_12 o_v2 ?_
    refine r_topi (fun x7 ex7 => ?_)
    have h := h x7 ex7
    exact r_iret (pc := 15) C E ht dX5_airAlong_15 (by decide) (by decide) h
def P_X5_airAlong (v0 : Nat) (v1 : Int32) (v2 : Nat) (Q : Int32 → HS → Prop) (S : HS) : Prop := P_X5_airAlong_0 Q v0 v1 v2 S
theorem c_X5_airAlong {l : Launch} {Ee : EE} {S : HS} {v0 : Nat} {v1 : Int32} {v2 : Nat} {Q : Int32 → HS → Prop} (h : P_X5_airAlong v0 v1 v2 Q S) : MI l yX5_airAlong cX5_airAlong 4 (some .int) rm_X5_airAlong Ee S [.ref v0, .int v1, .ref v2] Q :=
  openI (by decide) (Nat.le_of_ble_eq_true rfl) (fun X C E ht hn hE hl => by subst hE; exact r_sub [0, 1, 2] rfl (T_X5_airAlong_0 C E ht hn h))
def rm_X1_lay : Room := { frames := 2, cells := 0, slots := 0, locals := 46 }
def P_X1_lay_130 (Q : HS → Prop) (v0 : Nat) (v3 : Nat) (v7 : Int64) (v9 : Int32) (s0 : Nat) (s1 : Int32) (s2 : Int64) (S : HS) : Prop := ob S s0 14 ∧ (vp_in s1 (hN S s0) ∧ (∀ S2 : HS, S2 = sJ S s0 s1.toNatClampNeg s2 → (ob S2 v0 1 ∧ (∃ a3 : Nat, fR S2 v0 1 = some a3 ∧ (((¬ v9 = (3 : Int32)) → (ob S2 a3 14 ∧ (vp_in (4 : Int32) (hN S2 a3) ∧ (∀ S6 : HS, S6 = sJ S2 a3 (4 : Int32).toNatClampNeg (0 : Int64) → (Q S6))))) ∧ ((v9 = (3 : Int32)) → (ob S2 v3 3 ∧ (∀ x7 : Int32, x7 = fI S2 v3 3 → (ob S2 a3 14 ∧ (∀ x9 : Int64, x9 = v7 * x7.toInt64 → (vp_in (4 : Int32) (hN S2 a3) ∧ (∀ S10 : HS, S10 = sJ S2 a3 (4 : Int32).toNatClampNeg x9 → (Q S10)))))))))))))
set_option maxRecDepth 20000 in
set_option maxHeartbeats 4000000 in
theorem T_X1_lay_130 {X : CX} {Q : HS → Prop} (C : Cx X cX1_lay RX1 11 rm_X1_lay) (E : ReV X rm_X1_lay Q) (ht : (xh X).sig.returnType = none) (hn : (xh X).name = yX1_lay.name) {v0 : Nat} {v3 : Nat} {v7 : Int64} {v9 : Int32} {s0 : Nat} {s1 : Int32} {s2 : Int64} {S : HS} (h : P_X1_lay_130 Q v0 v3 v7 v9 s0 s1 s2 S) : WS X 11 0 0 130 [(0, .ref v0), (3, .ref v3), (7, .long v7), (9, .int v9)] [.long s2, .int s1, .ref s0] S := by
  obtain ⟨o_s0, h⟩ := h
  obtain ⟨i1, h⟩ := h
  refine r_last (pc := 130) C dX1_lay_130 o_s0 i1 ?_
  refine r_heap (fun S2 eS2 => ?_)
  have h := h S2 eS2
  have o_s0 := ob_J eS2 o_s0
  refine r_aload_n (pc := 131) C dX1_lay_131 0 rfl ?_
  obtain ⟨o_v0, h⟩ := h
  obtain ⟨a3, ea3, h⟩ := h
  refine r_getr (pc := 132) C fL_X1_15 dX1_lay_132 o_v0 ea3 ?_
  refine r_iconst (pc := 135) C (v := (4 : Int32)) dX1_lay_135 (by decide) ?_
  refine r_iload (pc := 136) C dX1_lay_136 3 rfl ?_
  refine r_iconst (pc := 138) C (v := (3 : Int32)) dX1_lay_138 (by decide) ?_
  refine r_icmp_ne (pc := 139) C (tgt := 153) dX1_lay_139 (by decide) (fun c4 => ?_) (fun c4 => ?_)
  · have h := h.1 c4
    refine r_lconst (pc := 153) C (v := (0 : Int64)) dX1_lay_153 (by decide) ?_
    obtain ⟨o_a3, h⟩ := h
    obtain ⟨i5, h⟩ := h
    refine r_last (pc := 154) C dX1_lay_154 o_a3 i5 ?_
    refine r_heap (fun S6 eS6 => ?_)
    have h := h S6 eS6
    have o_a3 := ob_J eS6 o_a3
    have o_s0 := ob_J eS6 o_s0
    have o_v0 := ob_J eS6 o_v0
    exact r_vret (pc := 155) C E ht dX1_lay_155 (by decide) (by decide) h
  · have h := h.2 c4
    refine r_lload (pc := 142) C dX1_lay_142 2 rfl ?_
    refine r_aload_n (pc := 144) C dX1_lay_144 1 rfl ?_
    obtain ⟨o_v3, h⟩ := h
    refine r_geti (pc := 145) C fL_X1_48 dX1_lay_145 o_v3 ?_
    refine r_topi (fun x7 ex7 => ?_)
    have h := h x7 ex7
    refine r_i2l (pc := 148) C dX1_lay_148 ?_
    refine r_lmul (pc := 149) C dX1_lay_149 ?_
    refine r_goto (pc := 150) C (tgt := 154) dX1_lay_150 (by decide) ?_
    obtain ⟨o_a3, h⟩ := h
    refine r_topl (fun x9 ex9 => ?_)
    have h := h x9 ex9
    obtain ⟨i8, h⟩ := h
    refine r_last (pc := 154) C dX1_lay_154 o_a3 i8 ?_
    refine r_heap (fun S10 eS10 => ?_)
    have h := h S10 eS10
    have o_a3 := ob_J eS10 o_a3
    have o_s0 := ob_J eS10 o_s0
    have o_v0 := ob_J eS10 o_v0
    have o_v3 := ob_J eS10 o_v3
    exact r_vret (pc := 155) C E ht dX1_lay_155 (by decide) (by decide) h
def P_X1_lay_27 (Q : HS → Prop) (v0 : Nat) (v1 : Nat) (v2 : Int32) (v3 : Nat) (v4 : Int32) (s0 : Int64) (S : HS) : Prop := ob S v3 3 ∧ (∀ x1 : Int32, x1 = fI S v3 0 → (∀ x2 : Int64, x2 = x1.toInt64 * s0 → (ob S v1 5 ∧ (P_X5_turnOf v1 v2 v3 (fun x5 S3 => Gr S S3 → (P_X5_airAlong v1 v2 v3 (fun x8 S6 => Gr S3 S6 → (ob S6 v0 1 ∧ (∃ a9 : Nat, fR S6 v0 1 = some a9 ∧ (∀ x10 : Int32, x10 = fI S6 v3 1 → (ob S6 a9 14 ∧ (∀ x12 : Int64, x12 = x2 * x10.toInt64 → (vp_in (0 : Int32) (hN S6 a9) ∧ (∀ S13 : HS, S13 = sJ S6 a9 (0 : Int32).toNatClampNeg x12 → (∃ a14 : Nat, fR S13 v0 1 = some a14 ∧ (∀ x15 : Int32, x15 = (if v4 - x8 < (0 : Int32) then (0 : Int32) else v4 - x8) → (ob S13 a14 14 ∧ (∀ x17 : Int64, x17 = x2 * x15.toInt64 → (vp_in (1 : Int32) (hN S13 a14) ∧ (∀ S18 : HS, S18 = sJ S13 a14 (1 : Int32).toNatClampNeg x17 → (∃ a19 : Nat, fR S18 v0 1 = some a19 ∧ (∀ x20 : Int32, x20 = (if x8 - v4 < (0 : Int32) then (0 : Int32) else x8 - v4) → (ob S18 a19 14 ∧ (∀ x22 : Int64, x22 = x2 * x20.toInt64 → (vp_in (2 : Int32) (hN S18 a19) ∧ (∀ S23 : HS, S23 = sJ S18 a19 (2 : Int32).toNatClampNeg x22 → (∃ a24 : Nat, fR S23 v0 1 = some a24 ∧ (((¬ x5 = (1 : Int32)) → (P_X1_lay_130 Q v0 v3 x2 x5 a24 (3 : Int32) (0 : Int64) S23)) ∧ ((x5 = (1 : Int32)) → (∀ x26 : Int32, x26 = fI S23 v3 3 → (P_X1_lay_130 Q v0 v3 x2 x5 a24 (3 : Int32) (x2 * x26.toInt64) S23))))))))))))))))))))))))) S3)) S))))
set_option maxRecDepth 20000 in
set_option maxHeartbeats 4000000 in
theorem T_X1_lay_27 {X : CX} {Q : HS → Prop} (C : Cx X cX1_lay RX1 11 rm_X1_lay) (E : ReV X rm_X1_lay Q) (ht : (xh X).sig.returnType = none) (hn : (xh X).name = yX1_lay.name) {v0 : Nat} {v1 : Nat} {v2 : Int32} {v3 : Nat} {v4 : Int32} {s0 : Int64} {S : HS} (h : P_X1_lay_27 Q v0 v1 v2 v3 v4 s0 S) : WS X 11 0 0 27 [(0, .ref v0), (1, .ref v1), (2, .int v2), (3, .ref v3), (4, .int v4)] [.long s0] S := by
  refine r_lstore (pc := 27) C dX1_lay_27 (by decide) (lv' := [(5, .long s0), (0, .ref v0), (1, .ref v1), (2, .int v2), (3, .ref v3), (4, .int v4)]) rfl ?_
  refine r_aload_n (pc := 29) C dX1_lay_29 4 rfl ?_
  obtain ⟨o_v3, h⟩ := h
  refine r_geti (pc := 30) C fL_X1_27 dX1_lay_30 o_v3 ?_
  refine r_topi (fun x1 ex1 => ?_)
  have h := h x1 ex1
  refine r_i2l (pc := 33) C dX1_lay_33 ?_
  refine r_lload (pc := 34) C dX1_lay_34 0 rfl ?_
  refine r_lmul (pc := 36) C dX1_lay_36 ?_
  refine r_topl (fun x2 ex2 => ?_)
  have h := h x2 ex2
  refine r_lstore (pc := 37) C dX1_lay_37 (by decide) (lv' := [(7, .long x2), (5, .long s0), (0, .ref v0), (1, .ref v1), (2, .int v2), (3, .ref v3), (4, .int v4)]) rfl ?_
  refine r_aload_n (pc := 39) C dX1_lay_39 3 rfl ?_
  refine r_iload_n (pc := 40) C dX1_lay_40 4 rfl ?_
  refine r_aload_n (pc := 41) C dX1_lay_41 5 rfl ?_
  obtain ⟨o_v1, h⟩ := h
  refine r_callVi0 (pc := 42) C (rest := []) (a := v1) o_v1 [.int v2, .ref v3] yV_X5_turnOf g_696 (c_X5_turnOf h) dX1_lay_42 rfl rfl (Nat.le_of_ble_eq_true rfl) ⟨by decide, by decide⟩ ⟨by decide, by decide⟩ ⟨rfl, rfl⟩ (fun x5 S3 h g4 => ?_)
  have h := h g4
  have o_v1 := gr_ob g4 o_v1
  have o_v3 := gr_ob g4 o_v3
  refine r_istore (pc := 45) C dX1_lay_45 (by decide) (lv' := [(9, .int x5), (7, .long x2), (5, .long s0), (0, .ref v0), (1, .ref v1), (2, .int v2), (3, .ref v3), (4, .int v4)]) rfl ?_
  refine r_aload_n (pc := 47) C dX1_lay_47 4 rfl ?_
  refine r_iload_n (pc := 48) C dX1_lay_48 5 rfl ?_
  refine r_aload_n (pc := 49) C dX1_lay_49 6 rfl ?_
  refine r_callVi0 (pc := 50) C (rest := []) (a := v1) o_v1 [.int v2, .ref v3] yV_X5_airAlong g_700 (c_X5_airAlong h) dX1_lay_50 rfl rfl (Nat.le_of_ble_eq_true rfl) ⟨by decide, by decide⟩ ⟨by decide, by decide⟩ ⟨rfl, rfl⟩ (fun x8 S6 h g7 => ?_)
  have h := h g7
  have o_v1 := gr_ob g7 o_v1
  have o_v3 := gr_ob g7 o_v3
  refine r_istore (pc := 53) C dX1_lay_53 (by decide) (lv' := [(10, .int x8), (9, .int x5), (7, .long x2), (5, .long s0), (0, .ref v0), (1, .ref v1), (2, .int v2), (3, .ref v3), (4, .int v4)]) rfl ?_
  refine r_aload_n (pc := 55) C dX1_lay_55 4 rfl ?_
  obtain ⟨o_v0, h⟩ := h
  obtain ⟨a9, ea9, h⟩ := h
  refine r_getr (pc := 56) C fL_X1_15 dX1_lay_56 o_v0 ea9 ?_
  refine r_iconst (pc := 59) C (v := (0 : Int32)) dX1_lay_59 (by decide) ?_
  refine r_lload (pc := 60) C dX1_lay_60 2 rfl ?_
  refine r_aload_n (pc := 62) C dX1_lay_62 7 rfl ?_
  refine r_geti (pc := 63) C fL_X1_39 dX1_lay_63 o_v3 ?_
  refine r_topi (fun x10 ex10 => ?_)
  have h := h x10 ex10
  refine r_i2l (pc := 66) C dX1_lay_66 ?_
  refine r_lmul (pc := 67) C dX1_lay_67 ?_
  obtain ⟨o_a9, h⟩ := h
  refine r_topl (fun x12 ex12 => ?_)
  have h := h x12 ex12
  obtain ⟨i11, h⟩ := h
  refine r_last (pc := 68) C dX1_lay_68 o_a9 i11 ?_
  refine r_heap (fun S13 eS13 => ?_)
  have h := h S13 eS13
  have o_a9 := ob_J eS13 o_a9
  have o_v0 := ob_J eS13 o_v0
  have o_v1 := ob_J eS13 o_v1
  have o_v3 := ob_J eS13 o_v3
  refine r_aload_n (pc := 69) C dX1_lay_69 4 rfl ?_
  obtain ⟨a14, ea14, h⟩ := h
  refine r_getr (pc := 70) C fL_X1_15 dX1_lay_70 o_v0 ea14 ?_
  refine r_iconst (pc := 73) C (v := (1 : Int32)) dX1_lay_73 (by decide) ?_
  refine r_lload (pc := 74) C dX1_lay_74 2 rfl ?_
  refine r_iload (pc := 76) C dX1_lay_76 8 rfl ?_
  refine r_iload (pc := 78) C dX1_lay_78 0 rfl ?_
  refine r_isub (pc := 80) C dX1_lay_80 ?_
  refine r_iconst (pc := 81) C (v := (0 : Int32)) dX1_lay_81 (by decide) ?_
  refine r_max (pc := 82) C g_705 dX1_lay_82 (by decide) (Nat.le_of_ble_eq_true rfl) (by decide) (by decide) ?_
  refine r_topi (fun x15 ex15 => ?_)
  have h := h x15 ex15
  refine r_i2l (pc := 85) C dX1_lay_85 ?_
  refine r_lmul (pc := 86) C dX1_lay_86 ?_
  obtain ⟨o_a14, h⟩ := h
  refine r_topl (fun x17 ex17 => ?_)
  have h := h x17 ex17
  obtain ⟨i16, h⟩ := h
  refine r_last (pc := 87) C dX1_lay_87 o_a14 i16 ?_
  refine r_heap (fun S18 eS18 => ?_)
  have h := h S18 eS18
  have o_a14 := ob_J eS18 o_a14
  have o_a9 := ob_J eS18 o_a9
  have o_v0 := ob_J eS18 o_v0
  have o_v1 := ob_J eS18 o_v1
  have o_v3 := ob_J eS18 o_v3
  refine r_aload_n (pc := 88) C dX1_lay_88 4 rfl ?_
  obtain ⟨a19, ea19, h⟩ := h
  refine r_getr (pc := 89) C fL_X1_15 dX1_lay_89 o_v0 ea19 ?_
  refine r_iconst (pc := 92) C (v := (2 : Int32)) dX1_lay_92 (by decide) ?_
  refine r_lload (pc := 93) C dX1_lay_93 2 rfl ?_
  refine r_iload (pc := 95) C dX1_lay_95 0 rfl ?_
  refine r_iload (pc := 97) C dX1_lay_97 8 rfl ?_
  refine r_isub (pc := 99) C dX1_lay_99 ?_
  refine r_iconst (pc := 100) C (v := (0 : Int32)) dX1_lay_100 (by decide) ?_
  refine r_max (pc := 101) C g_705 dX1_lay_101 (by decide) (Nat.le_of_ble_eq_true rfl) (by decide) (by decide) ?_
  refine r_topi (fun x20 ex20 => ?_)
  have h := h x20 ex20
  refine r_i2l (pc := 104) C dX1_lay_104 ?_
  refine r_lmul (pc := 105) C dX1_lay_105 ?_
  obtain ⟨o_a19, h⟩ := h
  refine r_topl (fun x22 ex22 => ?_)
  have h := h x22 ex22
  obtain ⟨i21, h⟩ := h
  refine r_last (pc := 106) C dX1_lay_106 o_a19 i21 ?_
  refine r_heap (fun S23 eS23 => ?_)
  have h := h S23 eS23
  have o_a14 := ob_J eS23 o_a14
  have o_a19 := ob_J eS23 o_a19
  have o_a9 := ob_J eS23 o_a9
  have o_v0 := ob_J eS23 o_v0
  have o_v1 := ob_J eS23 o_v1
  have o_v3 := ob_J eS23 o_v3
  refine r_aload_n (pc := 107) C dX1_lay_107 4 rfl ?_
  obtain ⟨a24, ea24, h⟩ := h
  refine r_getr (pc := 108) C fL_X1_15 dX1_lay_108 o_v0 ea24 ?_
  refine r_iconst (pc := 111) C (v := (3 : Int32)) dX1_lay_111 (by decide) ?_
  refine r_iload (pc := 112) C dX1_lay_112 1 rfl ?_
  refine r_iconst (pc := 114) C (v := (1 : Int32)) dX1_lay_114 (by decide) ?_
  refine r_icmp_ne (pc := 115) C (tgt := 129) dX1_lay_115 (by decide) (fun c25 => ?_) (fun c25 => ?_)
  · have h := h.1 c25
    refine r_lconst (pc := 129) C (v := (0 : Int64)) dX1_lay_129 (by decide) ?_
    exact r_sub [4, 7, 2, 1] rfl (T_X1_lay_130 C E ht hn h)
  · have h := h.2 c25
    refine r_lload (pc := 118) C dX1_lay_118 2 rfl ?_
    refine r_aload_n (pc := 120) C dX1_lay_120 7 rfl ?_
    refine r_geti (pc := 121) C fL_X1_48 dX1_lay_121 o_v3 ?_
    refine r_topi (fun x26 ex26 => ?_)
    have h := h x26 ex26
    refine r_i2l (pc := 124) C dX1_lay_124 ?_
    refine r_lmul (pc := 125) C dX1_lay_125 ?_
    refine r_goto (pc := 126) C (tgt := 130) dX1_lay_126 (by decide) ?_
    exact r_sub [4, 7, 2, 1] rfl (T_X1_lay_130 C E ht hn h)
def P_X1_lay_0 (Q : HS → Prop) (v0 : Nat) (v1 : Nat) (v2 : Int32) (v3 : Nat) (v4 : Int32) (S : HS) : Prop := ((v4 ≤ 0) → (P_X1_lay_27 Q v0 v1 v2 v3 v4 (0 : Int64) S)) ∧ ((¬ v4 ≤ 0) → (ob S v1 5 ∧ (∀ x2 : Int32, x2 = fI S v1 3 → (∀ x3 : Int32, x3 = fI S v1 4 → (¬ v4 = 0 ∧ ∀ x5 : Int32, x5 = (2520 : Int32) / v4 → (P_X1_lay_27 Q v0 v1 v2 v3 v4 (((x2 - x3).toInt64) * x5.toInt64) S))))))
set_option maxRecDepth 20000 in
set_option maxHeartbeats 4000000 in
theorem T_X1_lay_0 {X : CX} {Q : HS → Prop} (C : Cx X cX1_lay RX1 11 rm_X1_lay) (E : ReV X rm_X1_lay Q) (ht : (xh X).sig.returnType = none) (hn : (xh X).name = yX1_lay.name) {v0 : Nat} {v1 : Nat} {v2 : Int32} {v3 : Nat} {v4 : Int32} {S : HS} (h : P_X1_lay_0 Q v0 v1 v2 v3 v4 S) : WS X 11 0 0 0 [(0, .ref v0), (1, .ref v1), (2, .int v2), (3, .ref v3), (4, .int v4)] [] S := by
  refine r_iload (pc := 0) C dX1_lay_0 4 rfl ?_
  refine r_if_le (pc := 2) C (tgt := 26) dX1_lay_2 (by decide) (fun c1 => ?_) (fun c1 => ?_)
  · have h := h.1 c1
    refine r_lconst (pc := 26) C (v := (0 : Int64)) dX1_lay_26 (by decide) ?_
    exact r_sub [0, 1, 2, 3, 4] rfl (T_X1_lay_27 C E ht hn h)
  · have h := h.2 c1
    refine r_aload_n (pc := 5) C dX1_lay_5 1 rfl ?_
    obtain ⟨o_v1, h⟩ := h
    refine r_geti (pc := 6) C fL_X1_18 dX1_lay_6 o_v1 ?_
    refine r_topi (fun x2 ex2 => ?_)
    have h := h x2 ex2
    refine r_aload_n (pc := 9) C dX1_lay_9 1 rfl ?_
    refine r_geti (pc := 10) C fL_X1_24 dX1_lay_10 o_v1 ?_
    refine r_topi (fun x3 ex3 => ?_)
    have h := h x3 ex3
    refine r_isub (pc := 13) C dX1_lay_13 ?_
    refine r_i2l (pc := 14) C dX1_lay_14 ?_
    refine r_sipush (pc := 15) C (v := (2520 : Int32)) dX1_lay_15 (by decide) ?_
    refine r_iload (pc := 18) C dX1_lay_18 4 rfl ?_
    obtain ⟨q4, h⟩ := h
    refine r_idiv (pc := 20) C dX1_lay_20 q4 ?_
    refine r_topi (fun x5 ex5 => ?_)
    have h := h x5 ex5
    refine r_i2l (pc := 21) C dX1_lay_21 ?_
    refine r_lmul (pc := 22) C dX1_lay_22 ?_
    refine r_goto (pc := 23) C (tgt := 27) dX1_lay_23 (by decide) ?_
    exact r_sub [0, 1, 2, 3, 4] rfl (T_X1_lay_27 C E ht hn h)
def P_X1_lay (v0 : Nat) (v1 : Nat) (v2 : Int32) (v3 : Nat) (v4 : Int32) (Q : HS → Prop) (S : HS) : Prop := P_X1_lay_0 Q v0 v1 v2 v3 v4 S
theorem c_X1_lay {l : Launch} {Ee : EE} {S : HS} {v0 : Nat} {v1 : Nat} {v2 : Int32} {v3 : Nat} {v4 : Int32} {Q : HS → Prop} (h : P_X1_lay v0 v1 v2 v3 v4 Q S) : MV l yX1_lay cX1_lay 11 none rm_X1_lay Ee S [.ref v0, .ref v1, .int v2, .ref v3, .int v4] Q :=
  openV (by decide) (Nat.le_of_ble_eq_true rfl) (fun X C E ht hn hE hl => by subst hE; exact r_sub [0, 1, 2, 3, 4] rfl (T_X1_lay_0 C E ht hn h))
def rm_X6_shield : Room := { frames := 0, cells := 0, slots := 0, locals := 0 }
def P_X6_shield_0 (Q : Int32 → HS → Prop) (v0 : Nat) (S : HS) : Prop := ob S v0 6 ∧ (∀ x1 : Int32, x1 = fI S v0 0 → (((¬ x1 = (3 : Int32)) → (Q (0 : Int32) S)) ∧ ((x1 = (3 : Int32)) → (∀ x3 : Int32, x3 = fI S v0 1 → (Q x3 S)))))
set_option maxRecDepth 20000 in
set_option maxHeartbeats 4000000 in
theorem T_X6_shield_0 {X : CX} {Q : Int32 → HS → Prop} (C : Cx X cX6_shield RX6 1 rm_X6_shield) (E : ReI X rm_X6_shield Q) (ht : (xh X).sig.returnType = (some .int)) (hn : (xh X).name = yX6_shield.name) {v0 : Nat} {S : HS} (h : P_X6_shield_0 Q v0 S) : WS X 1 0 0 0 [(0, .ref v0)] [] S := by
  refine r_aload_n (pc := 0) C dX6_shield_0 0 rfl ?_
  obtain ⟨o_v0, h⟩ := h
  refine r_geti (pc := 1) C fL_X6_9 dX6_shield_1 o_v0 ?_
  refine r_topi (fun x1 ex1 => ?_)
  have h := h x1 ex1
  refine r_iconst (pc := 4) C (v := (3 : Int32)) dX6_shield_4 (by decide) ?_
  refine r_icmp_ne (pc := 5) C (tgt := 15) dX6_shield_5 (by decide) (fun c2 => ?_) (fun c2 => ?_)
  · have h := h.1 c2
    refine r_iconst (pc := 15) C (v := (0 : Int32)) dX6_shield_15 (by decide) ?_
    exact r_iret (pc := 16) C E ht dX6_shield_16 (by decide) (by decide) h
  · have h := h.2 c2
    refine r_aload_n (pc := 8) C dX6_shield_8 0 rfl ?_
    refine r_geti (pc := 9) C fL_X6_15 dX6_shield_9 o_v0 ?_
    refine r_topi (fun x3 ex3 => ?_)
    have h := h x3 ex3
    refine r_goto (pc := 12) C (tgt := 16) dX6_shield_12 (by decide) ?_
    exact r_iret (pc := 16) C E ht dX6_shield_16 (by decide) (by decide) h
def P_X6_shield (v0 : Nat) (Q : Int32 → HS → Prop) (S : HS) : Prop := P_X6_shield_0 Q v0 S
theorem c_X6_shield {l : Launch} {Ee : EE} {S : HS} {v0 : Nat} {Q : Int32 → HS → Prop} (h : P_X6_shield v0 Q S) : MI l yX6_shield cX6_shield 1 (some .int) rm_X6_shield Ee S [.ref v0] Q :=
  openI (by decide) (Nat.le_of_ble_eq_true rfl) (fun X C E ht hn hE hl => by subst hE; exact r_sub [0] rfl (T_X6_shield_0 C E ht hn h))
def rm_X1_isForward : Room := { frames := 1, cells := 0, slots := 0, locals := 23 }
def P_X1_isForward_0 (Q : Int32 → HS → Prop) (v0 : Nat) (v1 : Nat) (S : HS) : Prop := ob S v0 1 ∧ (∃ a1 : Nat, fR S v0 1 = some a1 ∧ (ob S a1 14 ∧ (vp_in (0 : Int32) (hN S a1) ∧ ∀ x3 : Int64, x3 = fJ S a1 (0 : Int32).toNatClampNeg → (ob S v1 6 ∧ (P_X6_shield v1 (fun x6 S4 => Gr S S4 → (∀ x7 : Int32, x7 = fI S4 v1 2 → (∀ x8 : Int32, x8 = (if x7 < x6 then x7 else x6) → (∀ x9 : Int64, x9 = x3 * x8.toInt64 → (∃ a10 : Nat, fR S4 v0 1 = some a10 ∧ (ob S4 a10 14 ∧ (vp_in (1 : Int32) (hN S4 a10) ∧ ∀ x12 : Int64, x12 = fJ S4 a10 (1 : Int32).toNatClampNeg → (P_X6_shield v1 (fun x15 S13 => Gr S4 S13 → (∀ x16 : Int32, x16 = fI S13 v1 3 → (∀ x17 : Int32, x17 = (if x16 < x15 then x16 else x15) → (∀ x18 : Int64, x18 = x12 * x17.toInt64 → ((((lg_cmp x18 x9) ≤ 0) → (Q (0 : Int32) S13)) ∧ ((¬ (lg_cmp x18 x9) ≤ 0) → (Q (1 : Int32) S13))))))) S4)))))))) S)))))
set_option maxRecDepth 20000 in
set_option maxHeartbeats 4000000 in
theorem T_X1_isForward_0 {X : CX} {Q : Int32 → HS → Prop} (C : Cx X cX1_isForward RX1 6 rm_X1_isForward) (E : ReI X rm_X1_isForward (fun r S => bl r ∧ Q r S)) (ht : (xh X).sig.returnType = (some .boolean)) (hn : (xh X).name = yX1_isForward.name) {v0 : Nat} {v1 : Nat} {S : HS} (h : P_X1_isForward_0 Q v0 v1 S) : WS X 6 0 0 0 [(0, .ref v0), (1, .ref v1)] [] S := by
  refine r_aload_n (pc := 0) C dX1_isForward_0 0 rfl ?_
  obtain ⟨o_v0, h⟩ := h
  obtain ⟨a1, ea1, h⟩ := h
  refine r_getr (pc := 1) C fL_X1_15 dX1_isForward_1 o_v0 ea1 ?_
  refine r_iconst (pc := 4) C (v := (0 : Int32)) dX1_isForward_4 (by decide) ?_
  obtain ⟨o_a1, h⟩ := h
  obtain ⟨i2, h⟩ := h
  refine r_lald (pc := 5) C dX1_isForward_5 o_a1 i2 ?_
  refine r_topl (fun x3 ex3 => ?_)
  have h := h x3 ex3
  refine r_aload_n (pc := 6) C dX1_isForward_6 1 rfl ?_
  obtain ⟨o_v1, h⟩ := h
  refine r_callVi0 (pc := 7) C (rest := [.long x3]) (a := v1) o_v1 [] yV_X6_shield g_716 (c_X6_shield h) dX1_isForward_7 rfl rfl (Nat.le_of_ble_eq_true rfl) ⟨by decide, by decide⟩ ⟨by decide, by decide⟩ ⟨rfl, rfl⟩ (fun x6 S4 h g5 => ?_)
  have h := h g5
  have o_a1 := gr_ob g5 o_a1
  have o_v0 := gr_ob g5 o_v0
  have o_v1 := gr_ob g5 o_v1
  refine r_aload_n (pc := 10) C dX1_isForward_10 1 rfl ?_
  refine r_geti (pc := 11) C fL_X1_57 dX1_isForward_11 o_v1 ?_
  refine r_topi (fun x7 ex7 => ?_)
  have h := h x7 ex7
  refine r_min (pc := 14) C g_720 dX1_isForward_14 (by decide) (Nat.le_of_ble_eq_true rfl) (by decide) (by decide) ?_
  refine r_topi (fun x8 ex8 => ?_)
  have h := h x8 ex8
  refine r_i2l (pc := 17) C dX1_isForward_17 ?_
  refine r_lmul (pc := 18) C dX1_isForward_18 ?_
  refine r_topl (fun x9 ex9 => ?_)
  have h := h x9 ex9
  refine r_lstore_n (pc := 19) C dX1_isForward_19 rfl (by decide) (lv' := [(2, .long x9), (0, .ref v0), (1, .ref v1)]) rfl ?_
  refine r_aload_n (pc := 20) C dX1_isForward_20 1 rfl ?_
  obtain ⟨a10, ea10, h⟩ := h
  refine r_getr (pc := 21) C fL_X1_15 dX1_isForward_21 o_v0 ea10 ?_
  refine r_iconst (pc := 24) C (v := (1 : Int32)) dX1_isForward_24 (by decide) ?_
  obtain ⟨o_a10, h⟩ := h
  obtain ⟨i11, h⟩ := h
  refine r_lald (pc := 25) C dX1_isForward_25 o_a10 i11 ?_
  refine r_topl (fun x12 ex12 => ?_)
  have h := h x12 ex12
  refine r_aload_n (pc := 26) C dX1_isForward_26 2 rfl ?_
  refine r_callVi0 (pc := 27) C (rest := [.long x12]) (a := v1) o_v1 [] yV_X6_shield g_716 (c_X6_shield h) dX1_isForward_27 rfl rfl (Nat.le_of_ble_eq_true rfl) ⟨by decide, by decide⟩ ⟨by decide, by decide⟩ ⟨rfl, rfl⟩ (fun x15 S13 h g14 => ?_)
  have h := h g14
  have o_a1 := gr_ob g14 o_a1
  have o_a10 := gr_ob g14 o_a10
  have o_v0 := gr_ob g14 o_v0
  have o_v1 := gr_ob g14 o_v1
  refine r_aload_n (pc := 30) C dX1_isForward_30 2 rfl ?_
  refine r_geti (pc := 31) C fL_X1_63 dX1_isForward_31 o_v1 ?_
  refine r_topi (fun x16 ex16 => ?_)
  have h := h x16 ex16
  refine r_min (pc := 34) C g_720 dX1_isForward_34 (by decide) (Nat.le_of_ble_eq_true rfl) (by decide) (by decide) ?_
  refine r_topi (fun x17 ex17 => ?_)
  have h := h x17 ex17
  refine r_i2l (pc := 37) C dX1_isForward_37 ?_
  refine r_lmul (pc := 38) C dX1_isForward_38 ?_
  refine r_topl (fun x18 ex18 => ?_)
  have h := h x18 ex18
  refine r_lstore (pc := 39) C dX1_isForward_39 (by decide) (lv' := [(4, .long x18), (2, .long x9), (0, .ref v0), (1, .ref v1)]) rfl ?_
  refine r_lload (pc := 41) C dX1_isForward_41 0 rfl ?_
  refine r_lload_n (pc := 43) C dX1_isForward_43 1 rfl ?_
  refine r_lcmp (pc := 44) C dX1_isForward_44 ?_
  refine r_if_le (pc := 45) C (tgt := 52) dX1_isForward_45 (by decide) (fun c19 => ?_) (fun c19 => ?_)
  · have h := h.1 c19
    refine r_iconst (pc := 52) C (v := (0 : Int32)) dX1_isForward_52 (by decide) ?_
    exact r_zret (pc := 53) C E ht dX1_isForward_53 (by decide) (by decide) (Or.inl rfl) h
  · have h := h.2 c19
    refine r_iconst (pc := 48) C (v := (1 : Int32)) dX1_isForward_48 (by decide) ?_
    refine r_goto (pc := 49) C (tgt := 53) dX1_isForward_49 (by decide) ?_
    exact r_zret (pc := 53) C E ht dX1_isForward_53 (by decide) (by decide) (Or.inr rfl) h
def P_X1_isForward (v0 : Nat) (v1 : Nat) (Q : Int32 → HS → Prop) (S : HS) : Prop := P_X1_isForward_0 Q v0 v1 S
theorem c_X1_isForward {l : Launch} {Ee : EE} {S : HS} {v0 : Nat} {v1 : Nat} {Q : Int32 → HS → Prop} (h : P_X1_isForward v0 v1 Q S) : MI l yX1_isForward cX1_isForward 6 (some .boolean) rm_X1_isForward Ee S [.ref v0, .ref v1] (fun r S => bl r ∧ Q r S) :=
  openI (by decide) (Nat.le_of_ble_eq_true rfl) (fun X C E ht hn hE hl => by subst hE; exact r_sub [0, 1] rfl (T_X1_isForward_0 C E ht hn h))
def rm_X1_soak : Room := { frames := 2, cells := 0, slots := 0, locals := 48 }
def P_X1_soak_35 (Q : Int64 → HS → Prop) (v0 : Nat) (v1 : Nat) (v2 : Int32) (v3 : Int32) (v5 : Int32) (s0 : Int32) (S : HS) : Prop := ob S v0 1 ∧ (∃ a1 : Nat, fR S v0 0 = some a1 ∧ (∃ a2 : Nat, fR S v0 1 = some a2 ∧ (ob S a2 14 ∧ (vp_in (0 : Int32) (hN S a2) ∧ ∀ x4 : Int64, x4 = fJ S a2 (0 : Int32).toNatClampNeg → (ob S v1 6 ∧ (∀ x5 : Int32, x5 = fI S v1 2 → (∀ x6 : Int32, x6 = (if x5 - v5 < (0 : Int32) then (0 : Int32) else x5 - v5) → (ob S a1 14 ∧ (∀ x8 : Int64, x8 = x4 * x6.toInt64 → (vp_in (0 : Int32) (hN S a1) ∧ (∀ S9 : HS, S9 = sJ S a1 (0 : Int32).toNatClampNeg x8 → (∃ a10 : Nat, fR S9 v0 0 = some a10 ∧ (∃ a11 : Nat, fR S9 v0 1 = some a11 ∧ (ob S9 a11 14 ∧ (vp_in (1 : Int32) (hN S9 a11) ∧ ∀ x13 : Int64, x13 = fJ S9 a11 (1 : Int32).toNatClampNeg → (∀ x14 : Int32, x14 = fI S9 v1 3 → (∀ x15 : Int32, x15 = (if (x14 - s0) - v2 < (0 : Int32) then (0 : Int32) else (x14 - s0) - v2) → (ob S9 a10 14 ∧ (∀ x17 : Int64, x17 = x13 * x15.toInt64 → (vp_in (1 : Int32) (hN S9 a10) ∧ (∀ S18 : HS, S18 = sJ S9 a10 (1 : Int32).toNatClampNeg x17 → (∃ a19 : Nat, fR S18 v0 0 = some a19 ∧ (∃ a20 : Nat, fR S18 v0 1 = some a20 ∧ (ob S18 a20 14 ∧ (vp_in (2 : Int32) (hN S18 a20) ∧ ∀ x22 : Int64, x22 = fJ S18 a20 (2 : Int32).toNatClampNeg → (∀ x23 : Int32, x23 = fI S18 v1 3 → (∀ x24 : Int32, x24 = (if x23 - v3 < (0 : Int32) then (0 : Int32) else x23 - v3) → (ob S18 a19 14 ∧ (∀ x26 : Int64, x26 = x22 * x24.toInt64 → (vp_in (2 : Int32) (hN S18 a19) ∧ (∀ S27 : HS, S27 = sJ S18 a19 (2 : Int32).toNatClampNeg x26 → (∃ a28 : Nat, fR S27 v0 0 = some a28 ∧ (∃ a29 : Nat, fR S27 v0 1 = some a29 ∧ (ob S27 a29 14 ∧ (vp_in (3 : Int32) (hN S27 a29) ∧ ∀ x31 : Int64, x31 = fJ S27 a29 (3 : Int32).toNatClampNeg → (∀ x32 : Int32, x32 = fI S27 v1 4 → (ob S27 a28 14 ∧ (∀ x34 : Int64, x34 = x31 * x32.toInt64 → (vp_in (3 : Int32) (hN S27 a28) ∧ (∀ S35 : HS, S35 = sJ S27 a28 (3 : Int32).toNatClampNeg x34 → (∃ a36 : Nat, fR S35 v0 0 = some a36 ∧ (∃ a37 : Nat, fR S35 v0 1 = some a37 ∧ (ob S35 a37 14 ∧ (vp_in (4 : Int32) (hN S35 a37) ∧ ∀ x39 : Int64, x39 = fJ S35 a37 (4 : Int32).toNatClampNeg → (∀ x40 : Int32, x40 = fI S35 v1 4 → (ob S35 a36 14 ∧ (∀ x42 : Int64, x42 = x39 * x40.toInt64 → (vp_in (4 : Int32) (hN S35 a36) ∧ (∀ S43 : HS, S43 = sJ S35 a36 (4 : Int32).toNatClampNeg x42 → (∃ a44 : Nat, fR S43 v0 0 = some a44 ∧ (ob S43 a44 14 ∧ (vp_in (0 : Int32) (hN S43 a44) ∧ ∀ x46 : Int64, x46 = fJ S43 a44 (0 : Int32).toNatClampNeg → (∃ a47 : Nat, fR S43 v0 0 = some a47 ∧ (ob S43 a47 14 ∧ (vp_in (1 : Int32) (hN S43 a47) ∧ ∀ x49 : Int64, x49 = fJ S43 a47 (1 : Int32).toNatClampNeg → (∃ a50 : Nat, fR S43 v0 0 = some a50 ∧ (ob S43 a50 14 ∧ (vp_in (2 : Int32) (hN S43 a50) ∧ ∀ x52 : Int64, x52 = fJ S43 a50 (2 : Int32).toNatClampNeg → (∃ a53 : Nat, fR S43 v0 0 = some a53 ∧ (ob S43 a53 14 ∧ (vp_in (3 : Int32) (hN S43 a53) ∧ ∀ x55 : Int64, x55 = fJ S43 a53 (3 : Int32).toNatClampNeg → (∃ a56 : Nat, fR S43 v0 0 = some a56 ∧ (ob S43 a56 14 ∧ (vp_in (4 : Int32) (hN S43 a56) ∧ ∀ x58 : Int64, x58 = fJ S43 a56 (4 : Int32).toNatClampNeg → (Q ((((x46 + x49) + x52) + x55) + x58) S43)))))))))))))))))))))))))))))))))))))))))))))))))))))))))))))))))
set_option maxRecDepth 20000 in
set_option maxHeartbeats 4000000 in
theorem T_X1_soak_35 {X : CX} {Q : Int64 → HS → Prop} (C : Cx X cX1_soak RX1 7 rm_X1_soak) (E : ReJ X rm_X1_soak Q) (ht : (xh X).sig.returnType = (some .long)) (hn : (xh X).name = yX1_soak.name) {v0 : Nat} {v1 : Nat} {v2 : Int32} {v3 : Int32} {v5 : Int32} {s0 : Int32} {S : HS} (h : P_X1_soak_35 Q v0 v1 v2 v3 v5 s0 S) : WS X 7 0 0 35 [(0, .ref v0), (1, .ref v1), (2, .int v2), (3, .int v3), (5, .int v5)] [.int s0] S := by
  refine r_istore (pc := 35) C dX1_soak_35 (by decide) (lv' := [(6, .int s0), (0, .ref v0), (1, .ref v1), (2, .int v2), (3, .int v3), (5, .int v5)]) rfl ?_
  refine r_aload_n (pc := 37) C dX1_soak_37 1 rfl ?_
  obtain ⟨o_v0, h⟩ := h
  obtain ⟨a1, ea1, h⟩ := h
  refine r_getr (pc := 38) C fL_X1_9 dX1_soak_38 o_v0 ea1 ?_
  refine r_iconst (pc := 41) C (v := (0 : Int32)) dX1_soak_41 (by decide) ?_
  refine r_aload_n (pc := 42) C dX1_soak_42 1 rfl ?_
  obtain ⟨a2, ea2, h⟩ := h
  refine r_getr (pc := 43) C fL_X1_15 dX1_soak_43 o_v0 ea2 ?_
  refine r_iconst (pc := 46) C (v := (0 : Int32)) dX1_soak_46 (by decide) ?_
  obtain ⟨o_a2, h⟩ := h
  obtain ⟨i3, h⟩ := h
  refine r_lald (pc := 47) C dX1_soak_47 o_a2 i3 ?_
  refine r_topl (fun x4 ex4 => ?_)
  have h := h x4 ex4
  refine r_aload_n (pc := 48) C dX1_soak_48 2 rfl ?_
  obtain ⟨o_v1, h⟩ := h
  refine r_geti (pc := 49) C fL_X1_57 dX1_soak_49 o_v1 ?_
  refine r_topi (fun x5 ex5 => ?_)
  have h := h x5 ex5
  refine r_iload (pc := 52) C dX1_soak_52 5 rfl ?_
  refine r_isub (pc := 54) C dX1_soak_54 ?_
  refine r_iconst (pc := 55) C (v := (0 : Int32)) dX1_soak_55 (by decide) ?_
  refine r_max (pc := 56) C g_705 dX1_soak_56 (by decide) (Nat.le_of_ble_eq_true rfl) (by decide) (by decide) ?_
  refine r_topi (fun x6 ex6 => ?_)
  have h := h x6 ex6
  refine r_i2l (pc := 59) C dX1_soak_59 ?_
  refine r_lmul (pc := 60) C dX1_soak_60 ?_
  obtain ⟨o_a1, h⟩ := h
  refine r_topl (fun x8 ex8 => ?_)
  have h := h x8 ex8
  obtain ⟨i7, h⟩ := h
  refine r_last (pc := 61) C dX1_soak_61 o_a1 i7 ?_
  refine r_heap (fun S9 eS9 => ?_)
  have h := h S9 eS9
  have o_a1 := ob_J eS9 o_a1
  have o_a2 := ob_J eS9 o_a2
  have o_v0 := ob_J eS9 o_v0
  have o_v1 := ob_J eS9 o_v1
  refine r_aload_n (pc := 62) C dX1_soak_62 1 rfl ?_
  obtain ⟨a10, ea10, h⟩ := h
  refine r_getr (pc := 63) C fL_X1_9 dX1_soak_63 o_v0 ea10 ?_
  refine r_iconst (pc := 66) C (v := (1 : Int32)) dX1_soak_66 (by decide) ?_
  refine r_aload_n (pc := 67) C dX1_soak_67 1 rfl ?_
  obtain ⟨a11, ea11, h⟩ := h
  refine r_getr (pc := 68) C fL_X1_15 dX1_soak_68 o_v0 ea11 ?_
  refine r_iconst (pc := 71) C (v := (1 : Int32)) dX1_soak_71 (by decide) ?_
  obtain ⟨o_a11, h⟩ := h
  obtain ⟨i12, h⟩ := h
  refine r_lald (pc := 72) C dX1_soak_72 o_a11 i12 ?_
  refine r_topl (fun x13 ex13 => ?_)
  have h := h x13 ex13
  refine r_aload_n (pc := 73) C dX1_soak_73 2 rfl ?_
  refine r_geti (pc := 74) C fL_X1_63 dX1_soak_74 o_v1 ?_
  refine r_topi (fun x14 ex14 => ?_)
  have h := h x14 ex14
  refine r_iload (pc := 77) C dX1_soak_77 0 rfl ?_
  refine r_isub (pc := 79) C dX1_soak_79 ?_
  refine r_iload_n (pc := 80) C dX1_soak_80 3 rfl ?_
  refine r_isub (pc := 81) C dX1_soak_81 ?_
  refine r_iconst (pc := 82) C (v := (0 : Int32)) dX1_soak_82 (by decide) ?_
  refine r_max (pc := 83) C g_705 dX1_soak_83 (by decide) (Nat.le_of_ble_eq_true rfl) (by decide) (by decide) ?_
  refine r_topi (fun x15 ex15 => ?_)
  have h := h x15 ex15
  refine r_i2l (pc := 86) C dX1_soak_86 ?_
  refine r_lmul (pc := 87) C dX1_soak_87 ?_
  obtain ⟨o_a10, h⟩ := h
  refine r_topl (fun x17 ex17 => ?_)
  have h := h x17 ex17
  obtain ⟨i16, h⟩ := h
  refine r_last (pc := 88) C dX1_soak_88 o_a10 i16 ?_
  refine r_heap (fun S18 eS18 => ?_)
  have h := h S18 eS18
  have o_a1 := ob_J eS18 o_a1
  have o_a10 := ob_J eS18 o_a10
  have o_a11 := ob_J eS18 o_a11
  have o_a2 := ob_J eS18 o_a2
  have o_v0 := ob_J eS18 o_v0
  have o_v1 := ob_J eS18 o_v1
  refine r_aload_n (pc := 89) C dX1_soak_89 1 rfl ?_
  obtain ⟨a19, ea19, h⟩ := h
  refine r_getr (pc := 90) C fL_X1_9 dX1_soak_90 o_v0 ea19 ?_
  refine r_iconst (pc := 93) C (v := (2 : Int32)) dX1_soak_93 (by decide) ?_
  refine r_aload_n (pc := 94) C dX1_soak_94 1 rfl ?_
  obtain ⟨a20, ea20, h⟩ := h
  refine r_getr (pc := 95) C fL_X1_15 dX1_soak_95 o_v0 ea20 ?_
  refine r_iconst (pc := 98) C (v := (2 : Int32)) dX1_soak_98 (by decide) ?_
  obtain ⟨o_a20, h⟩ := h
  obtain ⟨i21, h⟩ := h
  refine r_lald (pc := 99) C dX1_soak_99 o_a20 i21 ?_
  refine r_topl (fun x22 ex22 => ?_)
  have h := h x22 ex22
  refine r_aload_n (pc := 100) C dX1_soak_100 2 rfl ?_
  refine r_geti (pc := 101) C fL_X1_63 dX1_soak_101 o_v1 ?_
  refine r_topi (fun x23 ex23 => ?_)
  have h := h x23 ex23
  refine r_iload_n (pc := 104) C dX1_soak_104 4 rfl ?_
  refine r_isub (pc := 105) C dX1_soak_105 ?_
  refine r_iconst (pc := 106) C (v := (0 : Int32)) dX1_soak_106 (by decide) ?_
  refine r_max (pc := 107) C g_705 dX1_soak_107 (by decide) (Nat.le_of_ble_eq_true rfl) (by decide) (by decide) ?_
  refine r_topi (fun x24 ex24 => ?_)
  have h := h x24 ex24
  refine r_i2l (pc := 110) C dX1_soak_110 ?_
  refine r_lmul (pc := 111) C dX1_soak_111 ?_
  obtain ⟨o_a19, h⟩ := h
  refine r_topl (fun x26 ex26 => ?_)
  have h := h x26 ex26
  obtain ⟨i25, h⟩ := h
  refine r_last (pc := 112) C dX1_soak_112 o_a19 i25 ?_
  refine r_heap (fun S27 eS27 => ?_)
  have h := h S27 eS27
  have o_a1 := ob_J eS27 o_a1
  have o_a10 := ob_J eS27 o_a10
  have o_a11 := ob_J eS27 o_a11
  have o_a19 := ob_J eS27 o_a19
  have o_a2 := ob_J eS27 o_a2
  have o_a20 := ob_J eS27 o_a20
  have o_v0 := ob_J eS27 o_v0
  have o_v1 := ob_J eS27 o_v1
  refine r_aload_n (pc := 113) C dX1_soak_113 1 rfl ?_
  obtain ⟨a28, ea28, h⟩ := h
  refine r_getr (pc := 114) C fL_X1_9 dX1_soak_114 o_v0 ea28 ?_
  refine r_iconst (pc := 117) C (v := (3 : Int32)) dX1_soak_117 (by decide) ?_
  refine r_aload_n (pc := 118) C dX1_soak_118 1 rfl ?_
  obtain ⟨a29, ea29, h⟩ := h
  refine r_getr (pc := 119) C fL_X1_15 dX1_soak_119 o_v0 ea29 ?_
  refine r_iconst (pc := 122) C (v := (3 : Int32)) dX1_soak_122 (by decide) ?_
  obtain ⟨o_a29, h⟩ := h
  obtain ⟨i30, h⟩ := h
  refine r_lald (pc := 123) C dX1_soak_123 o_a29 i30 ?_
  refine r_topl (fun x31 ex31 => ?_)
  have h := h x31 ex31
  refine r_aload_n (pc := 124) C dX1_soak_124 2 rfl ?_
  refine r_geti (pc := 125) C fL_X1_78 dX1_soak_125 o_v1 ?_
  refine r_topi (fun x32 ex32 => ?_)
  have h := h x32 ex32
  refine r_i2l (pc := 128) C dX1_soak_128 ?_
  refine r_lmul (pc := 129) C dX1_soak_129 ?_
  obtain ⟨o_a28, h⟩ := h
  refine r_topl (fun x34 ex34 => ?_)
  have h := h x34 ex34
  obtain ⟨i33, h⟩ := h
  refine r_last (pc := 130) C dX1_soak_130 o_a28 i33 ?_
  refine r_heap (fun S35 eS35 => ?_)
  have h := h S35 eS35
  have o_a1 := ob_J eS35 o_a1
  have o_a10 := ob_J eS35 o_a10
  have o_a11 := ob_J eS35 o_a11
  have o_a19 := ob_J eS35 o_a19
  have o_a2 := ob_J eS35 o_a2
  have o_a20 := ob_J eS35 o_a20
  have o_a28 := ob_J eS35 o_a28
  have o_a29 := ob_J eS35 o_a29
  have o_v0 := ob_J eS35 o_v0
  have o_v1 := ob_J eS35 o_v1
  refine r_aload_n (pc := 131) C dX1_soak_131 1 rfl ?_
  obtain ⟨a36, ea36, h⟩ := h
  refine r_getr (pc := 132) C fL_X1_9 dX1_soak_132 o_v0 ea36 ?_
  refine r_iconst (pc := 135) C (v := (4 : Int32)) dX1_soak_135 (by decide) ?_
  refine r_aload_n (pc := 136) C dX1_soak_136 1 rfl ?_
  obtain ⟨a37, ea37, h⟩ := h
  refine r_getr (pc := 137) C fL_X1_15 dX1_soak_137 o_v0 ea37 ?_
  refine r_iconst (pc := 140) C (v := (4 : Int32)) dX1_soak_140 (by decide) ?_
  obtain ⟨o_a37, h⟩ := h
  obtain ⟨i38, h⟩ := h
  refine r_lald (pc := 141) C dX1_soak_141 o_a37 i38 ?_
  refine r_topl (fun x39 ex39 => ?_)
  have h := h x39 ex39
  refine r_aload_n (pc := 142) C dX1_soak_142 2 rfl ?_
  refine r_geti (pc := 143) C fL_X1_78 dX1_soak_143 o_v1 ?_
  refine r_topi (fun x40 ex40 => ?_)
  have h := h x40 ex40
  refine r_i2l (pc := 146) C dX1_soak_146 ?_
  refine r_lmul (pc := 147) C dX1_soak_147 ?_
  obtain ⟨o_a36, h⟩ := h
  refine r_topl (fun x42 ex42 => ?_)
  have h := h x42 ex42
  obtain ⟨i41, h⟩ := h
  refine r_last (pc := 148) C dX1_soak_148 o_a36 i41 ?_
  refine r_heap (fun S43 eS43 => ?_)
  have h := h S43 eS43
  have o_a1 := ob_J eS43 o_a1
  have o_a10 := ob_J eS43 o_a10
  have o_a11 := ob_J eS43 o_a11
  have o_a19 := ob_J eS43 o_a19
  have o_a2 := ob_J eS43 o_a2
  have o_a20 := ob_J eS43 o_a20
  have o_a28 := ob_J eS43 o_a28
  have o_a29 := ob_J eS43 o_a29
  have o_a36 := ob_J eS43 o_a36
  have o_a37 := ob_J eS43 o_a37
  have o_v0 := ob_J eS43 o_v0
  have o_v1 := ob_J eS43 o_v1
  refine r_aload_n (pc := 149) C dX1_soak_149 1 rfl ?_
  obtain ⟨a44, ea44, h⟩ := h
  refine r_getr (pc := 150) C fL_X1_9 dX1_soak_150 o_v0 ea44 ?_
  refine r_iconst (pc := 153) C (v := (0 : Int32)) dX1_soak_153 (by decide) ?_
  obtain ⟨o_a44, h⟩ := h
  obtain ⟨i45, h⟩ := h
  refine r_lald (pc := 154) C dX1_soak_154 o_a44 i45 ?_
  refine r_topl (fun x46 ex46 => ?_)
  have h := h x46 ex46
  refine r_aload_n (pc := 155) C dX1_soak_155 1 rfl ?_
  obtain ⟨a47, ea47, h⟩ := h
  refine r_getr (pc := 156) C fL_X1_9 dX1_soak_156 o_v0 ea47 ?_
  refine r_iconst (pc := 159) C (v := (1 : Int32)) dX1_soak_159 (by decide) ?_
  obtain ⟨o_a47, h⟩ := h
  obtain ⟨i48, h⟩ := h
  refine r_lald (pc := 160) C dX1_soak_160 o_a47 i48 ?_
  refine r_topl (fun x49 ex49 => ?_)
  have h := h x49 ex49
  refine r_ladd (pc := 161) C dX1_soak_161 ?_
  refine r_aload_n (pc := 162) C dX1_soak_162 1 rfl ?_
  obtain ⟨a50, ea50, h⟩ := h
  refine r_getr (pc := 163) C fL_X1_9 dX1_soak_163 o_v0 ea50 ?_
  refine r_iconst (pc := 166) C (v := (2 : Int32)) dX1_soak_166 (by decide) ?_
  obtain ⟨o_a50, h⟩ := h
  obtain ⟨i51, h⟩ := h
  refine r_lald (pc := 167) C dX1_soak_167 o_a50 i51 ?_
  refine r_topl (fun x52 ex52 => ?_)
  have h := h x52 ex52
  refine r_ladd (pc := 168) C dX1_soak_168 ?_
  refine r_aload_n (pc := 169) C dX1_soak_169 1 rfl ?_
  obtain ⟨a53, ea53, h⟩ := h
  refine r_getr (pc := 170) C fL_X1_9 dX1_soak_170 o_v0 ea53 ?_
  refine r_iconst (pc := 173) C (v := (3 : Int32)) dX1_soak_173 (by decide) ?_
  obtain ⟨o_a53, h⟩ := h
  obtain ⟨i54, h⟩ := h
  refine r_lald (pc := 174) C dX1_soak_174 o_a53 i54 ?_
  refine r_topl (fun x55 ex55 => ?_)
  have h := h x55 ex55
  refine r_ladd (pc := 175) C dX1_soak_175 ?_
  refine r_aload_n (pc := 176) C dX1_soak_176 1 rfl ?_
  obtain ⟨a56, ea56, h⟩ := h
  refine r_getr (pc := 177) C fL_X1_9 dX1_soak_177 o_v0 ea56 ?_
  refine r_iconst (pc := 180) C (v := (4 : Int32)) dX1_soak_180 (by decide) ?_
  obtain ⟨o_a56, h⟩ := h
  obtain ⟨i57, h⟩ := h
  refine r_lald (pc := 181) C dX1_soak_181 o_a56 i57 ?_
  refine r_topl (fun x58 ex58 => ?_)
  have h := h x58 ex58
  refine r_ladd (pc := 182) C dX1_soak_182 ?_
  exact r_lret (pc := 183) C E ht dX1_soak_183 (by decide) (by decide) h
def P_X1_soak_20 (Q : Int64 → HS → Prop) (v0 : Nat) (v1 : Nat) (v2 : Int32) (v3 : Int32) (v4 : Int32) (s0 : Int32) (S : HS) : Prop := ((v4 = 0) → (P_X1_soak_35 Q v0 v1 v2 v3 s0 (0 : Int32) S)) ∧ ((¬ v4 = 0) → (ob S v1 6 ∧ (P_X6_shield v1 (fun x4 S2 => Gr S S2 → (P_X1_soak_35 Q v0 v1 v2 v3 s0 x4 S2)) S)))
set_option maxRecDepth 20000 in
set_option maxHeartbeats 4000000 in
theorem T_X1_soak_20 {X : CX} {Q : Int64 → HS → Prop} (C : Cx X cX1_soak RX1 7 rm_X1_soak) (E : ReJ X rm_X1_soak Q) (ht : (xh X).sig.returnType = (some .long)) (hn : (xh X).name = yX1_soak.name) {v0 : Nat} {v1 : Nat} {v2 : Int32} {v3 : Int32} {v4 : Int32} {s0 : Int32} {S : HS} (h : P_X1_soak_20 Q v0 v1 v2 v3 v4 s0 S) : WS X 7 0 0 20 [(0, .ref v0), (1, .ref v1), (2, .int v2), (3, .int v3), (4, .int v4)] [.int s0] S := by
  refine r_istore (pc := 20) C dX1_soak_20 (by decide) (lv' := [(5, .int s0), (0, .ref v0), (1, .ref v1), (2, .int v2), (3, .int v3), (4, .int v4)]) rfl ?_
  refine r_iload (pc := 22) C dX1_soak_22 5 rfl ?_
  refine r_if_eq (pc := 24) C (tgt := 34) dX1_soak_24 (by decide) (fun c1 => ?_) (fun c1 => ?_)
  · have h := h.1 c1
    refine r_iconst (pc := 34) C (v := (0 : Int32)) dX1_soak_34 (by decide) ?_
    exact r_sub [1, 2, 3, 4, 0] rfl (T_X1_soak_35 C E ht hn h)
  · have h := h.2 c1
    refine r_aload_n (pc := 27) C dX1_soak_27 2 rfl ?_
    obtain ⟨o_v1, h⟩ := h
    refine r_callVi0 (pc := 28) C (rest := []) (a := v1) o_v1 [] yV_X6_shield g_716 (c_X6_shield h) dX1_soak_28 rfl rfl (Nat.le_of_ble_eq_true rfl) ⟨by decide, by decide⟩ ⟨by decide, by decide⟩ ⟨rfl, rfl⟩ (fun x4 S2 h g3 => ?_)
    have h := h g3
    have o_v1 := gr_ob g3 o_v1
    refine r_goto (pc := 31) C (tgt := 35) dX1_soak_31 (by decide) ?_
    exact r_sub [1, 2, 3, 4, 0] rfl (T_X1_soak_35 C E ht hn h)
def P_X1_soak_0 (Q : Int64 → HS → Prop) (v0 : Nat) (v1 : Nat) (v2 : Int32) (v3 : Int32) (S : HS) : Prop := ob S v0 1 ∧ (P_X1_isForward v0 v1 (fun x3 S1 => Gr S S1 → bl x3 → (((x3 = 0) → (ob S1 v1 6 ∧ (P_X6_shield v1 (fun x7 S5 => Gr S1 S5 → (P_X1_soak_20 Q v0 v1 v2 v3 x3 x7 S5)) S1))) ∧ ((¬ x3 = 0) → (P_X1_soak_20 Q v0 v1 v2 v3 x3 (0 : Int32) S1)))) S)
set_option maxRecDepth 20000 in
set_option maxHeartbeats 4000000 in
theorem T_X1_soak_0 {X : CX} {Q : Int64 → HS → Prop} (C : Cx X cX1_soak RX1 7 rm_X1_soak) (E : ReJ X rm_X1_soak Q) (ht : (xh X).sig.returnType = (some .long)) (hn : (xh X).name = yX1_soak.name) {v0 : Nat} {v1 : Nat} {v2 : Int32} {v3 : Int32} {S : HS} (h : P_X1_soak_0 Q v0 v1 v2 v3 S) : WS X 7 0 0 0 [(0, .ref v0), (1, .ref v1), (2, .int v2), (3, .int v3)] [] S := by
  refine r_aload_n (pc := 0) C dX1_soak_0 0 rfl ?_
  refine r_aload_n (pc := 1) C dX1_soak_1 1 rfl ?_
  obtain ⟨o_v0, h⟩ := h
  refine r_callVi0 (pc := 2) C (rest := []) (a := v0) o_v0 [.ref v1] yV_X1_isForward g_712 (c_X1_isForward h) dX1_soak_2 rfl rfl (Nat.le_of_ble_eq_true rfl) ⟨by decide, by decide⟩ ⟨by decide, by decide⟩ ⟨rfl, rfl⟩ (fun x3 S1 h g2 => ?_)
  have bx3 := h.1
  have h := h.2 g2 bx3
  have o_v0 := gr_ob g2 o_v0
  refine r_istore (pc := 5) C dX1_soak_5 (by decide) (lv' := [(4, .int x3), (0, .ref v0), (1, .ref v1), (2, .int v2), (3, .int v3)]) rfl ?_
  refine r_iload (pc := 7) C dX1_soak_7 0 rfl ?_
  refine r_if_eq (pc := 9) C (tgt := 16) dX1_soak_9 (by decide) (fun c4 => ?_) (fun c4 => ?_)
  · have h := h.1 c4
    refine r_aload_n (pc := 16) C dX1_soak_16 2 rfl ?_
    obtain ⟨o_v1, h⟩ := h
    refine r_callVi0 (pc := 17) C (rest := []) (a := v1) o_v1 [] yV_X6_shield g_716 (c_X6_shield h) dX1_soak_17 rfl rfl (Nat.le_of_ble_eq_true rfl) ⟨by decide, by decide⟩ ⟨by decide, by decide⟩ ⟨rfl, rfl⟩ (fun x7 S5 h g6 => ?_)
    have h := h g6
    have o_v0 := gr_ob g6 o_v0
    have o_v1 := gr_ob g6 o_v1
    exact r_sub [1, 2, 3, 4, 0] rfl (T_X1_soak_20 C E ht hn h)
  · have h := h.2 c4
    refine r_iconst (pc := 12) C (v := (0 : Int32)) dX1_soak_12 (by decide) ?_
    refine r_goto (pc := 13) C (tgt := 20) dX1_soak_13 (by decide) ?_
    exact r_sub [1, 2, 3, 4, 0] rfl (T_X1_soak_20 C E ht hn h)
def P_X1_soak (v0 : Nat) (v1 : Nat) (v2 : Int32) (v3 : Int32) (Q : Int64 → HS → Prop) (S : HS) : Prop := P_X1_soak_0 Q v0 v1 v2 v3 S
theorem c_X1_soak {l : Launch} {Ee : EE} {S : HS} {v0 : Nat} {v1 : Nat} {v2 : Int32} {v3 : Int32} {Q : Int64 → HS → Prop} (h : P_X1_soak v0 v1 v2 v3 Q S) : MJ l yX1_soak cX1_soak 7 (some .long) rm_X1_soak Ee S [.ref v0, .ref v1, .int v2, .int v3] Q :=
  openJ (by decide) (Nat.le_of_ble_eq_true rfl) (fun X C E ht hn hE hl => by subst hE; exact r_sub [0, 1, 2, 3] rfl (T_X1_soak_0 C E ht hn h))
def rm_X1_wetOf : Room := { frames := 3, cells := 0, slots := 0, locals := 76 }
def P_X1_wetOf_0 (Q : Int64 → HS → Prop) (v0 : Nat) (v1 : Nat) (v2 : Nat) (v3 : Int32) (v4 : Nat) (v5 : Int32) (S : HS) : Prop := ob S v0 1 ∧ (P_X1_lay v0 v2 v3 v4 v5 (fun S1 => Gr S S1 → (P_X1_soak v0 v1 (0 : Int32) (0 : Int32) (fun x6 S4 => Gr S1 S4 → (Q x6 S4)) S1)) S)
set_option maxRecDepth 20000 in
set_option maxHeartbeats 4000000 in
theorem T_X1_wetOf_0 {X : CX} {Q : Int64 → HS → Prop} (C : Cx X cX1_wetOf RX1 6 rm_X1_wetOf) (E : ReJ X rm_X1_wetOf Q) (ht : (xh X).sig.returnType = (some .long)) (hn : (xh X).name = yX1_wetOf.name) {v0 : Nat} {v1 : Nat} {v2 : Nat} {v3 : Int32} {v4 : Nat} {v5 : Int32} {S : HS} (h : P_X1_wetOf_0 Q v0 v1 v2 v3 v4 v5 S) : WS X 6 0 0 0 [(0, .ref v0), (1, .ref v1), (2, .ref v2), (3, .int v3), (4, .ref v4), (5, .int v5)] [] S := by
  refine r_aload_n (pc := 0) C dX1_wetOf_0 0 rfl ?_
  refine r_aload_n (pc := 1) C dX1_wetOf_1 2 rfl ?_
  refine r_iload_n (pc := 2) C dX1_wetOf_2 3 rfl ?_
  refine r_aload (pc := 3) C dX1_wetOf_3 4 rfl ?_
  refine r_iload (pc := 5) C dX1_wetOf_5 5 rfl ?_
  obtain ⟨o_v0, h⟩ := h
  refine r_callVv0 (pc := 7) C (rest := []) (a := v0) o_v0 [.ref v2, .int v3, .ref v4, .int v5] yV_X1_lay g_692 (c_X1_lay h) dX1_wetOf_7 rfl rfl (Nat.le_of_ble_eq_true rfl) ⟨by decide, by decide⟩ ⟨by decide, by decide⟩ ⟨rfl, rfl⟩ (fun S1 h g2 => ?_)
  have h := h g2
  have o_v0 := gr_ob g2 o_v0
  refine r_aload_n (pc := 10) C dX1_wetOf_10 0 rfl ?_
  refine r_aload_n (pc := 11) C dX1_wetOf_11 1 rfl ?_
  refine r_iconst (pc := 12) C (v := (0 : Int32)) dX1_wetOf_12 (by decide) ?_
  refine r_iconst (pc := 13) C (v := (0 : Int32)) dX1_wetOf_13 (by decide) ?_
  refine r_callVl0 (pc := 14) C (rest := []) (a := v0) o_v0 [.ref v1, .int (0 : Int32), .int (0 : Int32)] yV_X1_soak g_708 (c_X1_soak h) dX1_wetOf_14 rfl rfl (Nat.le_of_ble_eq_true rfl) ⟨by decide, by decide⟩ ⟨by decide, by decide⟩ ⟨rfl, rfl⟩ (fun x6 S4 h g5 => ?_)
  have h := h g5
  have o_v0 := gr_ob g5 o_v0
  exact r_lret (pc := 17) C E ht dX1_wetOf_17 (by decide) (by decide) h
def P_X1_wetOf (v0 : Nat) (v1 : Nat) (v2 : Nat) (v3 : Int32) (v4 : Nat) (v5 : Int32) (Q : Int64 → HS → Prop) (S : HS) : Prop := P_X1_wetOf_0 Q v0 v1 v2 v3 v4 v5 S
theorem c_X1_wetOf {l : Launch} {Ee : EE} {S : HS} {v0 : Nat} {v1 : Nat} {v2 : Nat} {v3 : Int32} {v4 : Nat} {v5 : Int32} {Q : Int64 → HS → Prop} (h : P_X1_wetOf v0 v1 v2 v3 v4 v5 Q S) : MJ l yX1_wetOf cX1_wetOf 6 (some .long) rm_X1_wetOf Ee S [.ref v0, .ref v1, .ref v2, .int v3, .ref v4, .int v5] Q :=
  openJ (by decide) (Nat.le_of_ble_eq_true rfl) (fun X C E ht hn hE hl => by subst hE; exact r_sub [0, 1, 2, 3, 4, 5] rfl (T_X1_wetOf_0 C E ht hn h))
def rm_X1_bestSpeed : Room := { frames := 4, cells := 0, slots := 0, locals := 101 }
def P_X1_bestSpeed_55 (Q : Int32 → HS → Prop) (X17 : Nat → Nat → Nat → Int32 → Nat → Int32 → Int64 → Int32 → HS → Prop) (v0 : Nat) (v1 : Nat) (v2 : Nat) (v3 : Int32) (v4 : Nat) (v5 : Int32) (v6 : Int64) (v8 : Int32) (S : HS) : Prop := ∀ x1 : Int32, x1 = v8 + (1 : Int32) → (X17 v0 v1 v2 v3 v4 v5 v6 x1 S)
set_option maxRecDepth 20000 in
set_option maxHeartbeats 4000000 in
theorem T_X1_bestSpeed_55 {X : CX} {Q : Int32 → HS → Prop} (C : Cx X cX1_bestSpeed RX1 11 rm_X1_bestSpeed) (E : ReI X rm_X1_bestSpeed Q) (ht : (xh X).sig.returnType = (some .int)) (hn : (xh X).name = yX1_bestSpeed.name) {X17 : Nat → Nat → Nat → Int32 → Nat → Int32 → Int64 → Int32 → HS → Prop} (hX17 : ∀ (v0 : Nat) (v1 : Nat) (v2 : Nat) (v3 : Int32) (v4 : Nat) (v5 : Int32) (v6 : Int64) (v8 : Int32) (S : HS), X17 v0 v1 v2 v3 v4 v5 v6 v8 S → WS X 11 0 0 17 [(0, .ref v0), (1, .ref v1), (2, .ref v2), (3, .int v3), (4, .ref v4), (5, .int v5), (6, .long v6), (8, .int v8)] [] S) {v0 : Nat} {v1 : Nat} {v2 : Nat} {v3 : Int32} {v4 : Nat} {v5 : Int32} {v6 : Int64} {v8 : Int32} {S : HS} (h : P_X1_bestSpeed_55 Q X17 v0 v1 v2 v3 v4 v5 v6 v8 S) : WS X 11 0 0 55 [(0, .ref v0), (1, .ref v1), (2, .ref v2), (3, .int v3), (4, .ref v4), (5, .int v5), (6, .long v6), (8, .int v8)] [] S := by
  obtain ⟨x1, ex1⟩ : ∃ z : Int32, z = v8 + (1 : Int32) := ⟨_, rfl⟩
  have h := h x1 ex1
  refine r_iinc (pc := 55) C (v := x1) (lv' := [(8, .int x1), (0, .ref v0), (1, .ref v1), (2, .ref v2), (3, .int v3), (4, .ref v4), (5, .int v5), (6, .long v6)]) dX1_bestSpeed_55 7 rfl ex1.symm (by decide) rfl ?_
  refine r_goto (pc := 58) C (tgt := 17) dX1_bestSpeed_58 (by decide) ?_
  exact r_sub [1, 2, 3, 4, 5, 6, 7, 0] rfl (hX17 v0 v1 v2 v3 v4 v5 v6 x1 S h)
def B_X1_bestSpeed_17 (Q : Int32 → HS → Prop) (X17 : Nat → Nat → Nat → Int32 → Nat → Int32 → Int64 → Int32 → HS → Prop) (v0 : Nat) (v1 : Nat) (v2 : Nat) (v3 : Int32) (v4 : Nat) (v5 : Int32) (v6 : Int64) (v8 : Int32) (S : HS) : Prop := ob S v1 6 ∧ (∀ x1 : Int32, x1 = fI S v1 6 → (((x1 < v8) → (Q v5 S)) ∧ ((¬ x1 < v8) → (ob S v0 1 ∧ (P_X1_wetOf v0 v1 v2 v3 v4 v8 (fun x5 S3 => Gr S S3 → (((0 ≤ (lg_cmp x5 v6)) → (P_X1_bestSpeed_55 Q X17 v0 v1 v2 v3 v4 v5 v6 v8 S3)) ∧ ((¬ 0 ≤ (lg_cmp x5 v6)) → (P_X1_bestSpeed_55 Q X17 v0 v1 v2 v3 v4 v8 x5 v8 S3)))) S)))))
def P_X1_bestSpeed_17 (Q : Int32 → HS → Prop) (v0 : Nat) (v1 : Nat) (v2 : Nat) (v3 : Int32) (v4 : Nat) (v5 : Int32) (v6 : Int64) (v8 : Int32) (S : HS) : Prop := ∀ X17 : Nat → Nat → Nat → Int32 → Nat → Int32 → Int64 → Int32 → HS → Prop, (∀ (v0 : Nat) (v1 : Nat) (v2 : Nat) (v3 : Int32) (v4 : Nat) (v5 : Int32) (v6 : Int64) (v8 : Int32) (S : HS), B_X1_bestSpeed_17 Q X17 v0 v1 v2 v3 v4 v5 v6 v8 S → X17 v0 v1 v2 v3 v4 v5 v6 v8 S) → X17 v0 v1 v2 v3 v4 v5 v6 v8 S
set_option maxRecDepth 20000 in
set_option maxHeartbeats 4000000 in
theorem TB_X1_bestSpeed_17 {X : CX} {Q : Int32 → HS → Prop} (C : Cx X cX1_bestSpeed RX1 11 rm_X1_bestSpeed) (E : ReI X rm_X1_bestSpeed Q) (ht : (xh X).sig.returnType = (some .int)) (hn : (xh X).name = yX1_bestSpeed.name) {X17 : Nat → Nat → Nat → Int32 → Nat → Int32 → Int64 → Int32 → HS → Prop} (hX17 : ∀ (v0 : Nat) (v1 : Nat) (v2 : Nat) (v3 : Int32) (v4 : Nat) (v5 : Int32) (v6 : Int64) (v8 : Int32) (S : HS), X17 v0 v1 v2 v3 v4 v5 v6 v8 S → WS X 11 0 0 17 [(0, .ref v0), (1, .ref v1), (2, .ref v2), (3, .int v3), (4, .ref v4), (5, .int v5), (6, .long v6), (8, .int v8)] [] S) {v0 : Nat} {v1 : Nat} {v2 : Nat} {v3 : Int32} {v4 : Nat} {v5 : Int32} {v6 : Int64} {v8 : Int32} {S : HS} (h : B_X1_bestSpeed_17 Q X17 v0 v1 v2 v3 v4 v5 v6 v8 S) : WS X 11 0 0 17 [(0, .ref v0), (1, .ref v1), (2, .ref v2), (3, .int v3), (4, .ref v4), (5, .int v5), (6, .long v6), (8, .int v8)] [] S := by
  refine r_iload (pc := 17) C dX1_bestSpeed_17 7 rfl ?_
  refine r_aload_n (pc := 19) C dX1_bestSpeed_19 1 rfl ?_
  obtain ⟨o_v1, h⟩ := h
  refine r_geti (pc := 20) C fL_X1_86 dX1_bestSpeed_20 o_v1 ?_
  refine r_topi (fun x1 ex1 => ?_)
  have h := h x1 ex1
  refine r_icmp_gt (pc := 23) C (tgt := 61) dX1_bestSpeed_23 (by decide) (fun c2 => ?_) (fun c2 => ?_)
  · have h := h.1 c2
    refine r_iload (pc := 61) C dX1_bestSpeed_61 5 rfl ?_
    exact r_iret (pc := 63) C E ht dX1_bestSpeed_63 (by decide) (by decide) h
  · have h := h.2 c2
    refine r_aload_n (pc := 26) C dX1_bestSpeed_26 0 rfl ?_
    refine r_aload_n (pc := 27) C dX1_bestSpeed_27 1 rfl ?_
    refine r_aload_n (pc := 28) C dX1_bestSpeed_28 2 rfl ?_
    refine r_iload_n (pc := 29) C dX1_bestSpeed_29 3 rfl ?_
    refine r_aload (pc := 30) C dX1_bestSpeed_30 4 rfl ?_
    refine r_iload (pc := 32) C dX1_bestSpeed_32 7 rfl ?_
    obtain ⟨o_v0, h⟩ := h
    refine r_callVl0 (pc := 34) C (rest := []) (a := v0) o_v0 [.ref v1, .ref v2, .int v3, .ref v4, .int v8] yV_X1_wetOf g_765 (c_X1_wetOf h) dX1_bestSpeed_34 rfl rfl (Nat.le_of_ble_eq_true rfl) ⟨by decide, by decide⟩ ⟨by decide, by decide⟩ ⟨rfl, rfl⟩ (fun x5 S3 h g4 => ?_)
    have h := h g4
    have o_v0 := gr_ob g4 o_v0
    have o_v1 := gr_ob g4 o_v1
    refine r_lstore (pc := 37) C dX1_bestSpeed_37 (by decide) (lv' := [(9, .long x5), (0, .ref v0), (1, .ref v1), (2, .ref v2), (3, .int v3), (4, .ref v4), (5, .int v5), (6, .long v6), (8, .int v8)]) rfl ?_
    refine r_lload (pc := 39) C dX1_bestSpeed_39 0 rfl ?_
    refine r_lload (pc := 41) C dX1_bestSpeed_41 7 rfl ?_
    refine r_lcmp (pc := 43) C dX1_bestSpeed_43 ?_
    refine r_if_ge (pc := 44) C (tgt := 55) dX1_bestSpeed_44 (by decide) (fun c6 => ?_) (fun c6 => ?_)
    · have h := h.1 c6
      exact r_sub [1, 2, 3, 4, 5, 6, 7, 8] rfl (T_X1_bestSpeed_55 C E ht hn hX17 h)
    · have h := h.2 c6
      refine r_lload (pc := 47) C dX1_bestSpeed_47 0 rfl ?_
      refine r_lstore (pc := 49) C dX1_bestSpeed_49 (by decide) (lv' := [(6, .long x5), (9, .long x5), (0, .ref v0), (1, .ref v1), (2, .ref v2), (3, .int v3), (4, .ref v4), (5, .int v5), (8, .int v8)]) rfl ?_
      refine r_iload (pc := 51) C dX1_bestSpeed_51 8 rfl ?_
      refine r_istore (pc := 53) C dX1_bestSpeed_53 (by decide) (lv' := [(5, .int v8), (6, .long x5), (9, .long x5), (0, .ref v0), (1, .ref v1), (2, .ref v2), (3, .int v3), (4, .ref v4), (8, .int v8)]) rfl ?_
      exact r_sub [3, 4, 5, 6, 7, 0, 1, 8] rfl (T_X1_bestSpeed_55 C E ht hn hX17 h)
theorem T_X1_bestSpeed_17 {X : CX} {Q : Int32 → HS → Prop} (C : Cx X cX1_bestSpeed RX1 11 rm_X1_bestSpeed) (E : ReI X rm_X1_bestSpeed Q) (ht : (xh X).sig.returnType = (some .int)) (hn : (xh X).name = yX1_bestSpeed.name) {v0 : Nat} {v1 : Nat} {v2 : Nat} {v3 : Int32} {v4 : Nat} {v5 : Int32} {v6 : Int64} {v8 : Int32} {S : HS} (h : P_X1_bestSpeed_17 Q v0 v1 v2 v3 v4 v5 v6 v8 S) : WS X 11 0 0 17 [(0, .ref v0), (1, .ref v1), (2, .ref v2), (3, .int v3), (4, .ref v4), (5, .int v5), (6, .long v6), (8, .int v8)] [] S :=
  h (fun v0 v1 v2 v3 v4 v5 v6 v8 S => WS X 11 0 0 17 [(0, .ref v0), (1, .ref v1), (2, .ref v2), (3, .int v3), (4, .ref v4), (5, .int v5), (6, .long v6), (8, .int v8)] [] S) (fun v0 v1 v2 v3 v4 v5 v6 v8 S hh => TB_X1_bestSpeed_17 C E ht hn (fun v0 v1 v2 v3 v4 v5 v6 v8 S z => z) hh)
def P_X1_bestSpeed_0 (Q : Int32 → HS → Prop) (v0 : Nat) (v1 : Nat) (v2 : Nat) (v3 : Int32) (v4 : Nat) (S : HS) : Prop := ob S v1 6 ∧ (∀ x1 : Int32, x1 = fI S v1 5 → (∀ x2 : Int32, x2 = fI S v1 5 → (P_X1_bestSpeed_17 Q v0 v1 v2 v3 v4 x1 (4611686018427387904 : Int64) x2 S)))
set_option maxRecDepth 20000 in
set_option maxHeartbeats 4000000 in
theorem T_X1_bestSpeed_0 {X : CX} {Q : Int32 → HS → Prop} (C : Cx X cX1_bestSpeed RX1 11 rm_X1_bestSpeed) (E : ReI X rm_X1_bestSpeed Q) (ht : (xh X).sig.returnType = (some .int)) (hn : (xh X).name = yX1_bestSpeed.name) {v0 : Nat} {v1 : Nat} {v2 : Nat} {v3 : Int32} {v4 : Nat} {S : HS} (h : P_X1_bestSpeed_0 Q v0 v1 v2 v3 v4 S) : WS X 11 0 0 0 [(0, .ref v0), (1, .ref v1), (2, .ref v2), (3, .int v3), (4, .ref v4)] [] S := by
  refine r_aload_n (pc := 0) C dX1_bestSpeed_0 1 rfl ?_
  obtain ⟨o_v1, h⟩ := h
  refine r_geti (pc := 1) C fL_X1_81 dX1_bestSpeed_1 o_v1 ?_
  refine r_topi (fun x1 ex1 => ?_)
  have h := h x1 ex1
  refine r_istore (pc := 4) C dX1_bestSpeed_4 (by decide) (lv' := [(5, .int x1), (0, .ref v0), (1, .ref v1), (2, .ref v2), (3, .int v3), (4, .ref v4)]) rfl ?_
  refine r_ldc2 (pc := 6) C (v := (4611686018427387904 : Int64)) dX1_bestSpeed_6 g_764 ?_
  refine r_lstore (pc := 9) C dX1_bestSpeed_9 (by decide) (lv' := [(6, .long (4611686018427387904 : Int64)), (5, .int x1), (0, .ref v0), (1, .ref v1), (2, .ref v2), (3, .int v3), (4, .ref v4)]) rfl ?_
  refine r_aload_n (pc := 11) C dX1_bestSpeed_11 3 rfl ?_
  refine r_geti (pc := 12) C fL_X1_81 dX1_bestSpeed_12 o_v1 ?_
  refine r_topi (fun x2 ex2 => ?_)
  have h := h x2 ex2
  refine r_istore (pc := 15) C dX1_bestSpeed_15 (by decide) (lv' := [(8, .int x2), (6, .long (4611686018427387904 : Int64)), (5, .int x1), (0, .ref v0), (1, .ref v1), (2, .ref v2), (3, .int v3), (4, .ref v4)]) rfl ?_
  exact r_sub [3, 4, 5, 6, 7, 2, 1, 0] rfl (T_X1_bestSpeed_17 C E ht hn h)
def P_X1_bestSpeed (v0 : Nat) (v1 : Nat) (v2 : Nat) (v3 : Int32) (v4 : Nat) (Q : Int32 → HS → Prop) (S : HS) : Prop := P_X1_bestSpeed_0 Q v0 v1 v2 v3 v4 S
theorem c_X1_bestSpeed {l : Launch} {Ee : EE} {S : HS} {v0 : Nat} {v1 : Nat} {v2 : Nat} {v3 : Int32} {v4 : Nat} {Q : Int32 → HS → Prop} (h : P_X1_bestSpeed v0 v1 v2 v3 v4 Q S) : MI l yX1_bestSpeed cX1_bestSpeed 11 (some .int) rm_X1_bestSpeed Ee S [.ref v0, .ref v1, .ref v2, .int v3, .ref v4] Q :=
  openI (by decide) (Nat.le_of_ble_eq_true rfl) (fun X C E ht hn hE hl => by subst hE; exact r_sub [0, 1, 2, 3, 4] rfl (T_X1_bestSpeed_0 C E ht hn h))
def rm_X1_legsOf : Room := { frames := 0, cells := 0, slots := 0, locals := 0 }
def P_X1_legsOf_0 (Q : Int32 → HS → Prop) (v0 : Nat) (S : HS) : Prop := ob S v0 8 ∧ (∀ x1 : Int32, x1 = fI S v0 3 → (∀ x2 : Int32, x2 = fI S v0 1 → (Q (((x1 * (2 : Int32)) * x2) * (9 : Int32)) S)))
set_option maxRecDepth 20000 in
set_option maxHeartbeats 4000000 in
theorem T_X1_legsOf_0 {X : CX} {Q : Int32 → HS → Prop} (C : Cx X cX1_legsOf RX1 1 rm_X1_legsOf) (E : ReI X rm_X1_legsOf Q) (ht : (xh X).sig.returnType = (some .int)) (hn : (xh X).name = yX1_legsOf.name) {v0 : Nat} {S : HS} (h : P_X1_legsOf_0 Q v0 S) : WS X 1 0 0 0 [(0, .ref v0)] [] S := by
  refine r_aload_n (pc := 0) C dX1_legsOf_0 0 rfl ?_
  obtain ⟨o_v0, h⟩ := h
  refine r_geti (pc := 1) C fL_X1_107 dX1_legsOf_1 o_v0 ?_
  refine r_topi (fun x1 ex1 => ?_)
  have h := h x1 ex1
  refine r_iconst (pc := 4) C (v := (2 : Int32)) dX1_legsOf_4 (by decide) ?_
  refine r_imul (pc := 5) C dX1_legsOf_5 ?_
  refine r_aload_n (pc := 6) C dX1_legsOf_6 0 rfl ?_
  refine r_geti (pc := 7) C fL_X1_112 dX1_legsOf_7 o_v0 ?_
  refine r_topi (fun x2 ex2 => ?_)
  have h := h x2 ex2
  refine r_imul (pc := 10) C dX1_legsOf_10 ?_
  refine r_bipush (pc := 11) C (v := (9 : Int32)) dX1_legsOf_11 (by decide) ?_
  refine r_imul (pc := 13) C dX1_legsOf_13 ?_
  exact r_iret (pc := 14) C E ht dX1_legsOf_14 (by decide) (by decide) h
def P_X1_legsOf (v0 : Nat) (Q : Int32 → HS → Prop) (S : HS) : Prop := P_X1_legsOf_0 Q v0 S
theorem c_X1_legsOf {l : Launch} {Ee : EE} {S : HS} {v0 : Nat} {Q : Int32 → HS → Prop} (h : P_X1_legsOf v0 Q S) : MI l yX1_legsOf cX1_legsOf 1 (some .int) rm_X1_legsOf Ee S [.ref v0] Q :=
  openI (by decide) (Nat.le_of_ble_eq_true rfl) (fun X C E ht hn hE hl => by subst hE; exact r_sub [0] rfl (T_X1_legsOf_0 C E ht hn h))
def rm_X6_canGo : Room := { frames := 0, cells := 0, slots := 0, locals := 0 }
def P_X6_canGo_0 (Q : Int32 → HS → Prop) (v0 : Nat) (v1 : Int32) (S : HS) : Prop := ob S v0 6 ∧ (∀ x1 : Int32, x1 = fI S v0 5 → (((v1 < x1) → (Q (0 : Int32) S)) ∧ ((¬ v1 < x1) → (∀ x3 : Int32, x3 = fI S v0 6 → (((x3 < v1) → (Q (0 : Int32) S)) ∧ ((¬ x3 < v1) → (((v1 < (1 : Int32)) → (Q (0 : Int32) S)) ∧ ((¬ v1 < (1 : Int32)) → ((((9 : Int32) < v1) → (Q (0 : Int32) S)) ∧ ((¬ (9 : Int32) < v1) → (Q (1 : Int32) S)))))))))))
set_option maxRecDepth 20000 in
set_option maxHeartbeats 4000000 in
theorem T_X6_canGo_0 {X : CX} {Q : Int32 → HS → Prop} (C : Cx X cX6_canGo RX6 2 rm_X6_canGo) (E : ReI X rm_X6_canGo (fun r S => bl r ∧ Q r S)) (ht : (xh X).sig.returnType = (some .boolean)) (hn : (xh X).name = yX6_canGo.name) {v0 : Nat} {v1 : Int32} {S : HS} (h : P_X6_canGo_0 Q v0 v1 S) : WS X 2 0 0 0 [(0, .ref v0), (1, .int v1)] [] S := by
  refine r_iload_n (pc := 0) C dX6_canGo_0 1 rfl ?_
  refine r_aload_n (pc := 1) C dX6_canGo_1 0 rfl ?_
  obtain ⟨o_v0, h⟩ := h
  refine r_geti (pc := 2) C fL_X6_27 dX6_canGo_2 o_v0 ?_
  refine r_topi (fun x1 ex1 => ?_)
  have h := h x1 ex1
  refine r_icmp_lt (pc := 5) C (tgt := 31) dX6_canGo_5 (by decide) (fun c2 => ?_) (fun c2 => ?_)
  · have h := h.1 c2
    refine r_iconst (pc := 31) C (v := (0 : Int32)) dX6_canGo_31 (by decide) ?_
    exact r_zret (pc := 32) C E ht dX6_canGo_32 (by decide) (by decide) (Or.inl rfl) h
  · have h := h.2 c2
    refine r_iload_n (pc := 8) C dX6_canGo_8 1 rfl ?_
    refine r_aload_n (pc := 9) C dX6_canGo_9 0 rfl ?_
    refine r_geti (pc := 10) C fL_X6_30 dX6_canGo_10 o_v0 ?_
    refine r_topi (fun x3 ex3 => ?_)
    have h := h x3 ex3
    refine r_icmp_gt (pc := 13) C (tgt := 31) dX6_canGo_13 (by decide) (fun c4 => ?_) (fun c4 => ?_)
    · have h := h.1 c4
      refine r_iconst (pc := 31) C (v := (0 : Int32)) dX6_canGo_31 (by decide) ?_
      exact r_zret (pc := 32) C E ht dX6_canGo_32 (by decide) (by decide) (Or.inl rfl) h
    · have h := h.2 c4
      refine r_iload_n (pc := 16) C dX6_canGo_16 1 rfl ?_
      refine r_iconst (pc := 17) C (v := (1 : Int32)) dX6_canGo_17 (by decide) ?_
      refine r_icmp_lt (pc := 18) C (tgt := 31) dX6_canGo_18 (by decide) (fun c5 => ?_) (fun c5 => ?_)
      · have h := h.1 c5
        refine r_iconst (pc := 31) C (v := (0 : Int32)) dX6_canGo_31 (by decide) ?_
        exact r_zret (pc := 32) C E ht dX6_canGo_32 (by decide) (by decide) (Or.inl rfl) h
      · have h := h.2 c5
        refine r_iload_n (pc := 21) C dX6_canGo_21 1 rfl ?_
        refine r_bipush (pc := 22) C (v := (9 : Int32)) dX6_canGo_22 (by decide) ?_
        refine r_icmp_gt (pc := 24) C (tgt := 31) dX6_canGo_24 (by decide) (fun c6 => ?_) (fun c6 => ?_)
        · have h := h.1 c6
          refine r_iconst (pc := 31) C (v := (0 : Int32)) dX6_canGo_31 (by decide) ?_
          exact r_zret (pc := 32) C E ht dX6_canGo_32 (by decide) (by decide) (Or.inl rfl) h
        · have h := h.2 c6
          refine r_iconst (pc := 27) C (v := (1 : Int32)) dX6_canGo_27 (by decide) ?_
          refine r_goto (pc := 28) C (tgt := 32) dX6_canGo_28 (by decide) ?_
          exact r_zret (pc := 32) C E ht dX6_canGo_32 (by decide) (by decide) (Or.inr rfl) h
def P_X6_canGo (v0 : Nat) (v1 : Int32) (Q : Int32 → HS → Prop) (S : HS) : Prop := P_X6_canGo_0 Q v0 v1 S
theorem c_X6_canGo {l : Launch} {Ee : EE} {S : HS} {v0 : Nat} {v1 : Int32} {Q : Int32 → HS → Prop} (h : P_X6_canGo v0 v1 Q S) : MI l yX6_canGo cX6_canGo 2 (some .boolean) rm_X6_canGo Ee S [.ref v0, .int v1] (fun r S => bl r ∧ Q r S) :=
  openI (by decide) (Nat.le_of_ble_eq_true rfl) (fun X C E ht hn hE hl => by subst hE; exact r_sub [0, 1] rfl (T_X6_canGo_0 C E ht hn h))
def rm_X8_hasRoad : Room := { frames := 0, cells := 0, slots := 0, locals := 0 }
def P_X8_hasRoad_0 (Q : Int32 → HS → Prop) (v0 : Nat) (v1 : Int32) (S : HS) : Prop := ((v1 < 0) → (Q (0 : Int32) S)) ∧ ((¬ v1 < 0) → (ob S v0 8 ∧ (∀ x2 : Int32, x2 = fI S v0 3 → (((x2 ≤ v1) → (Q (0 : Int32) S)) ∧ ((¬ x2 ≤ v1) → (∃ a4 : Nat, fR S v0 8 = some a4 ∧ (ob S a4 18 ∧ ((((nI (hN S a4)) ≤ v1) → (Q (0 : Int32) S)) ∧ ((¬ (nI (hN S a4)) ≤ v1) → (Q (1 : Int32) S))))))))))
set_option maxRecDepth 20000 in
set_option maxHeartbeats 4000000 in
theorem T_X8_hasRoad_0 {X : CX} {Q : Int32 → HS → Prop} (C : Cx X cX8_hasRoad RX8 2 rm_X8_hasRoad) (E : ReI X rm_X8_hasRoad (fun r S => bl r ∧ Q r S)) (ht : (xh X).sig.returnType = (some .boolean)) (hn : (xh X).name = yX8_hasRoad.name) {v0 : Nat} {v1 : Int32} {S : HS} (h : P_X8_hasRoad_0 Q v0 v1 S) : WS X 2 0 0 0 [(0, .ref v0), (1, .int v1)] [] S := by
  refine r_iload_n (pc := 0) C dX8_hasRoad_0 1 rfl ?_
  refine r_if_lt (pc := 1) C (tgt := 25) dX8_hasRoad_1 (by decide) (fun c1 => ?_) (fun c1 => ?_)
  · have h := h.1 c1
    refine r_iconst (pc := 25) C (v := (0 : Int32)) dX8_hasRoad_25 (by decide) ?_
    exact r_zret (pc := 26) C E ht dX8_hasRoad_26 (by decide) (by decide) (Or.inl rfl) h
  · have h := h.2 c1
    refine r_iload_n (pc := 4) C dX8_hasRoad_4 1 rfl ?_
    refine r_aload_n (pc := 5) C dX8_hasRoad_5 0 rfl ?_
    obtain ⟨o_v0, h⟩ := h
    refine r_geti (pc := 6) C fL_X8_52 dX8_hasRoad_6 o_v0 ?_
    refine r_topi (fun x2 ex2 => ?_)
    have h := h x2 ex2
    refine r_icmp_ge (pc := 9) C (tgt := 25) dX8_hasRoad_9 (by decide) (fun c3 => ?_) (fun c3 => ?_)
    · have h := h.1 c3
      refine r_iconst (pc := 25) C (v := (0 : Int32)) dX8_hasRoad_25 (by decide) ?_
      exact r_zret (pc := 26) C E ht dX8_hasRoad_26 (by decide) (by decide) (Or.inl rfl) h
    · have h := h.2 c3
      refine r_iload_n (pc := 12) C dX8_hasRoad_12 1 rfl ?_
      refine r_aload_n (pc := 13) C dX8_hasRoad_13 0 rfl ?_
      obtain ⟨a4, ea4, h⟩ := h
      refine r_getr (pc := 14) C fL_X8_23 dX8_hasRoad_14 o_v0 ea4 ?_
      obtain ⟨o_a4, h⟩ := h
      refine r_alen18 (pc := 17) C dX8_hasRoad_17 o_a4 ?_
      refine r_icmp_ge (pc := 18) C (tgt := 25) dX8_hasRoad_18 (by decide) (fun c5 => ?_) (fun c5 => ?_)
      · have h := h.1 c5
        refine r_iconst (pc := 25) C (v := (0 : Int32)) dX8_hasRoad_25 (by decide) ?_
        exact r_zret (pc := 26) C E ht dX8_hasRoad_26 (by decide) (by decide) (Or.inl rfl) h
      · have h := h.2 c5
        refine r_iconst (pc := 21) C (v := (1 : Int32)) dX8_hasRoad_21 (by decide) ?_
        refine r_goto (pc := 22) C (tgt := 26) dX8_hasRoad_22 (by decide) ?_
        exact r_zret (pc := 26) C E ht dX8_hasRoad_26 (by decide) (by decide) (Or.inr rfl) h
def P_X8_hasRoad (v0 : Nat) (v1 : Int32) (Q : Int32 → HS → Prop) (S : HS) : Prop := P_X8_hasRoad_0 Q v0 v1 S
theorem c_X8_hasRoad {l : Launch} {Ee : EE} {S : HS} {v0 : Nat} {v1 : Int32} {Q : Int32 → HS → Prop} (h : P_X8_hasRoad v0 v1 Q S) : MI l yX8_hasRoad cX8_hasRoad 2 (some .boolean) rm_X8_hasRoad Ee S [.ref v0, .int v1] (fun r S => bl r ∧ Q r S) :=
  openI (by decide) (Nat.le_of_ble_eq_true rfl) (fun X C E ht hn hE hl => by subst hE; exact r_sub [0, 1] rfl (T_X8_hasRoad_0 C E ht hn h))
def rm_X8_hasSeen : Room := { frames := 0, cells := 0, slots := 0, locals := 0 }
def P_X8_hasSeen_0 (Q : Int32 → HS → Prop) (v0 : Nat) (v1 : Int32) (S : HS) : Prop := ((v1 < 0) → (Q (0 : Int32) S)) ∧ ((¬ v1 < 0) → (ob S v0 8 ∧ (∀ x2 : Int32, x2 = fI S v0 5 → (((x2 ≤ v1) → (Q (0 : Int32) S)) ∧ ((¬ x2 ≤ v1) → (∃ a4 : Nat, fR S v0 10 = some a4 ∧ (ob S a4 13 ∧ ((((nI (hN S a4)) ≤ v1) → (Q (0 : Int32) S)) ∧ ((¬ (nI (hN S a4)) ≤ v1) → (Q (1 : Int32) S))))))))))
set_option maxRecDepth 20000 in
set_option maxHeartbeats 4000000 in
theorem T_X8_hasSeen_0 {X : CX} {Q : Int32 → HS → Prop} (C : Cx X cX8_hasSeen RX8 2 rm_X8_hasSeen) (E : ReI X rm_X8_hasSeen (fun r S => bl r ∧ Q r S)) (ht : (xh X).sig.returnType = (some .boolean)) (hn : (xh X).name = yX8_hasSeen.name) {v0 : Nat} {v1 : Int32} {S : HS} (h : P_X8_hasSeen_0 Q v0 v1 S) : WS X 2 0 0 0 [(0, .ref v0), (1, .int v1)] [] S := by
  refine r_iload_n (pc := 0) C dX8_hasSeen_0 1 rfl ?_
  refine r_if_lt (pc := 1) C (tgt := 25) dX8_hasSeen_1 (by decide) (fun c1 => ?_) (fun c1 => ?_)
  · have h := h.1 c1
    refine r_iconst (pc := 25) C (v := (0 : Int32)) dX8_hasSeen_25 (by decide) ?_
    exact r_zret (pc := 26) C E ht dX8_hasSeen_26 (by decide) (by decide) (Or.inl rfl) h
  · have h := h.2 c1
    refine r_iload_n (pc := 4) C dX8_hasSeen_4 1 rfl ?_
    refine r_aload_n (pc := 5) C dX8_hasSeen_5 0 rfl ?_
    obtain ⟨o_v0, h⟩ := h
    refine r_geti (pc := 6) C fL_X8_58 dX8_hasSeen_6 o_v0 ?_
    refine r_topi (fun x2 ex2 => ?_)
    have h := h x2 ex2
    refine r_icmp_ge (pc := 9) C (tgt := 25) dX8_hasSeen_9 (by decide) (fun c3 => ?_) (fun c3 => ?_)
    · have h := h.1 c3
      refine r_iconst (pc := 25) C (v := (0 : Int32)) dX8_hasSeen_25 (by decide) ?_
      exact r_zret (pc := 26) C E ht dX8_hasSeen_26 (by decide) (by decide) (Or.inl rfl) h
    · have h := h.2 c3
      refine r_iload_n (pc := 12) C dX8_hasSeen_12 1 rfl ?_
      refine r_aload_n (pc := 13) C dX8_hasSeen_13 0 rfl ?_
      obtain ⟨a4, ea4, h⟩ := h
      refine r_getr (pc := 14) C fL_X8_33 dX8_hasSeen_14 o_v0 ea4 ?_
      obtain ⟨o_a4, h⟩ := h
      refine r_alen13 (pc := 17) C dX8_hasSeen_17 o_a4 ?_
      refine r_icmp_ge (pc := 18) C (tgt := 25) dX8_hasSeen_18 (by decide) (fun c5 => ?_) (fun c5 => ?_)
      · have h := h.1 c5
        refine r_iconst (pc := 25) C (v := (0 : Int32)) dX8_hasSeen_25 (by decide) ?_
        exact r_zret (pc := 26) C E ht dX8_hasSeen_26 (by decide) (by decide) (Or.inl rfl) h
      · have h := h.2 c5
        refine r_iconst (pc := 21) C (v := (1 : Int32)) dX8_hasSeen_21 (by decide) ?_
        refine r_goto (pc := 22) C (tgt := 26) dX8_hasSeen_22 (by decide) ?_
        exact r_zret (pc := 26) C E ht dX8_hasSeen_26 (by decide) (by decide) (Or.inr rfl) h
def P_X8_hasSeen (v0 : Nat) (v1 : Int32) (Q : Int32 → HS → Prop) (S : HS) : Prop := P_X8_hasSeen_0 Q v0 v1 S
theorem c_X8_hasSeen {l : Launch} {Ee : EE} {S : HS} {v0 : Nat} {v1 : Int32} {Q : Int32 → HS → Prop} (h : P_X8_hasSeen v0 v1 Q S) : MI l yX8_hasSeen cX8_hasSeen 2 (some .boolean) rm_X8_hasSeen Ee S [.ref v0, .int v1] (fun r S => bl r ∧ Q r S) :=
  openI (by decide) (Nat.le_of_ble_eq_true rfl) (fun X C E ht hn hE hl => by subst hE; exact r_sub [0, 1] rfl (T_X8_hasSeen_0 C E ht hn h))
def rm_X8_hasWalker : Room := { frames := 0, cells := 0, slots := 0, locals := 0 }
def P_X8_hasWalker_0 (Q : Int32 → HS → Prop) (v0 : Nat) (v1 : Int32) (S : HS) : Prop := ((v1 < 0) → (Q (0 : Int32) S)) ∧ ((¬ v1 < 0) → (ob S v0 8 ∧ (∀ x2 : Int32, x2 = fI S v0 4 → (((x2 ≤ v1) → (Q (0 : Int32) S)) ∧ ((¬ x2 ≤ v1) → (∃ a4 : Nat, fR S v0 9 = some a4 ∧ (ob S a4 19 ∧ ((((nI (hN S a4)) ≤ v1) → (Q (0 : Int32) S)) ∧ ((¬ (nI (hN S a4)) ≤ v1) → (Q (1 : Int32) S))))))))))
set_option maxRecDepth 20000 in
set_option maxHeartbeats 4000000 in
theorem T_X8_hasWalker_0 {X : CX} {Q : Int32 → HS → Prop} (C : Cx X cX8_hasWalker RX8 2 rm_X8_hasWalker) (E : ReI X rm_X8_hasWalker (fun r S => bl r ∧ Q r S)) (ht : (xh X).sig.returnType = (some .boolean)) (hn : (xh X).name = yX8_hasWalker.name) {v0 : Nat} {v1 : Int32} {S : HS} (h : P_X8_hasWalker_0 Q v0 v1 S) : WS X 2 0 0 0 [(0, .ref v0), (1, .int v1)] [] S := by
  refine r_iload_n (pc := 0) C dX8_hasWalker_0 1 rfl ?_
  refine r_if_lt (pc := 1) C (tgt := 25) dX8_hasWalker_1 (by decide) (fun c1 => ?_) (fun c1 => ?_)
  · have h := h.1 c1
    refine r_iconst (pc := 25) C (v := (0 : Int32)) dX8_hasWalker_25 (by decide) ?_
    exact r_zret (pc := 26) C E ht dX8_hasWalker_26 (by decide) (by decide) (Or.inl rfl) h
  · have h := h.2 c1
    refine r_iload_n (pc := 4) C dX8_hasWalker_4 1 rfl ?_
    refine r_aload_n (pc := 5) C dX8_hasWalker_5 0 rfl ?_
    obtain ⟨o_v0, h⟩ := h
    refine r_geti (pc := 6) C fL_X8_55 dX8_hasWalker_6 o_v0 ?_
    refine r_topi (fun x2 ex2 => ?_)
    have h := h x2 ex2
    refine r_icmp_ge (pc := 9) C (tgt := 25) dX8_hasWalker_9 (by decide) (fun c3 => ?_) (fun c3 => ?_)
    · have h := h.1 c3
      refine r_iconst (pc := 25) C (v := (0 : Int32)) dX8_hasWalker_25 (by decide) ?_
      exact r_zret (pc := 26) C E ht dX8_hasWalker_26 (by decide) (by decide) (Or.inl rfl) h
    · have h := h.2 c3
      refine r_iload_n (pc := 12) C dX8_hasWalker_12 1 rfl ?_
      refine r_aload_n (pc := 13) C dX8_hasWalker_13 0 rfl ?_
      obtain ⟨a4, ea4, h⟩ := h
      refine r_getr (pc := 14) C fL_X8_29 dX8_hasWalker_14 o_v0 ea4 ?_
      obtain ⟨o_a4, h⟩ := h
      refine r_alen19 (pc := 17) C dX8_hasWalker_17 o_a4 ?_
      refine r_icmp_ge (pc := 18) C (tgt := 25) dX8_hasWalker_18 (by decide) (fun c5 => ?_) (fun c5 => ?_)
      · have h := h.1 c5
        refine r_iconst (pc := 25) C (v := (0 : Int32)) dX8_hasWalker_25 (by decide) ?_
        exact r_zret (pc := 26) C E ht dX8_hasWalker_26 (by decide) (by decide) (Or.inl rfl) h
      · have h := h.2 c5
        refine r_iconst (pc := 21) C (v := (1 : Int32)) dX8_hasWalker_21 (by decide) ?_
        refine r_goto (pc := 22) C (tgt := 26) dX8_hasWalker_22 (by decide) ?_
        exact r_zret (pc := 26) C E ht dX8_hasWalker_26 (by decide) (by decide) (Or.inr rfl) h
def P_X8_hasWalker (v0 : Nat) (v1 : Int32) (Q : Int32 → HS → Prop) (S : HS) : Prop := P_X8_hasWalker_0 Q v0 v1 S
theorem c_X8_hasWalker {l : Launch} {Ee : EE} {S : HS} {v0 : Nat} {v1 : Int32} {Q : Int32 → HS → Prop} (h : P_X8_hasWalker v0 v1 Q S) : MI l yX8_hasWalker cX8_hasWalker 2 (some .boolean) rm_X8_hasWalker Ee S [.ref v0, .int v1] (fun r S => bl r ∧ Q r S) :=
  openI (by decide) (Nat.le_of_ble_eq_true rfl) (fun X C E ht hn hE hl => by subst hE; exact r_sub [0, 1] rfl (T_X8_hasWalker_0 C E ht hn h))
def rm_X1_fitCode : Room := { frames := 4, cells := 0, slots := 0, locals := 101 }
def B_X1_fitCode_141 (Q : Int32 → HS → Prop) (X141 : Nat → Nat → Int32 → Int32 → Int32 → Int32 → Int32 → HS → Prop) (v0 : Nat) (v1 : Nat) (v2 : Int32) (v4 : Int32) (v5 : Int32) (v6 : Int32) (v8 : Int32) (S : HS) : Prop := (((5 : Int32) ≤ v8) → (∀ x2 : Int32, x2 = v6 / (2 : Int32) → (∀ x3 : Int32, x3 = v6 - v6 / (2 : Int32) * (2 : Int32) → (Q (((((1000 : Int32) * x2) + ((100 : Int32) * x3)) + ((10 : Int32) * v5)) + v4) S)))) ∧ ((¬ (5 : Int32) ≤ v8) → (ob S v0 1 ∧ (∃ a4 : Nat, fR S v0 0 = some a4 ∧ (ob S a4 14 ∧ (vp_in v8 (hN S a4) ∧ ∀ x6 : Int64, x6 = fJ S a4 v8.toNatClampNeg → (ob S v1 8 ∧ (∃ a7 : Nat, fR S v1 11 = some a7 ∧ (ob S a7 13 ∧ (∀ x9 : Int32, x9 = (v2 * (5 : Int32)) + v8 → (vp_in x9 (hN S a7) ∧ ∀ x10 : Int32, x10 = fI S a7 x9.toNatClampNeg → ((((lg_cmp x6 (x10.toInt64 * (2520 : Int64))) = 0) → (∀ x12 : Int32, x12 = v8 + (1 : Int32) → (X141 v0 v1 v2 v4 v5 v6 x12 S))) ∧ ((¬ (lg_cmp x6 (x10.toInt64 * (2520 : Int64))) = 0) → (Q (-1 : Int32) S)))))))))))))
def P_X1_fitCode_141 (Q : Int32 → HS → Prop) (v0 : Nat) (v1 : Nat) (v2 : Int32) (v4 : Int32) (v5 : Int32) (v6 : Int32) (v8 : Int32) (S : HS) : Prop := ∀ X141 : Nat → Nat → Int32 → Int32 → Int32 → Int32 → Int32 → HS → Prop, (∀ (v0 : Nat) (v1 : Nat) (v2 : Int32) (v4 : Int32) (v5 : Int32) (v6 : Int32) (v8 : Int32) (S : HS), B_X1_fitCode_141 Q X141 v0 v1 v2 v4 v5 v6 v8 S → X141 v0 v1 v2 v4 v5 v6 v8 S) → X141 v0 v1 v2 v4 v5 v6 v8 S
set_option maxRecDepth 20000 in
set_option maxHeartbeats 4000000 in
theorem TB_X1_fitCode_141 {X : CX} {Q : Int32 → HS → Prop} (C : Cx X cX1_fitCode RX1 9 rm_X1_fitCode) (E : ReI X rm_X1_fitCode Q) (ht : (xh X).sig.returnType = (some .int)) (hn : (xh X).name = yX1_fitCode.name) {X141 : Nat → Nat → Int32 → Int32 → Int32 → Int32 → Int32 → HS → Prop} (hX141 : ∀ (v0 : Nat) (v1 : Nat) (v2 : Int32) (v4 : Int32) (v5 : Int32) (v6 : Int32) (v8 : Int32) (S : HS), X141 v0 v1 v2 v4 v5 v6 v8 S → WS X 9 0 0 141 [(0, .ref v0), (1, .ref v1), (2, .int v2), (4, .int v4), (5, .int v5), (6, .int v6), (8, .int v8)] [] S) {v0 : Nat} {v1 : Nat} {v2 : Int32} {v4 : Int32} {v5 : Int32} {v6 : Int32} {v8 : Int32} {S : HS} (h : B_X1_fitCode_141 Q X141 v0 v1 v2 v4 v5 v6 v8 S) : WS X 9 0 0 141 [(0, .ref v0), (1, .ref v1), (2, .int v2), (4, .int v4), (5, .int v5), (6, .int v6), (8, .int v8)] [] S := by
  refine r_iload (pc := 141) C dX1_fitCode_141 6 rfl ?_
  refine r_iconst (pc := 143) C (v := (5 : Int32)) dX1_fitCode_143 (by decide) ?_
  refine r_icmp_ge (pc := 144) C (tgt := 182) dX1_fitCode_144 (by decide) (fun c1 => ?_) (fun c1 => ?_)
  · have h := h.1 c1
    refine r_sipush (pc := 182) C (v := (1000 : Int32)) dX1_fitCode_182 (by decide) ?_
    refine r_iload (pc := 185) C dX1_fitCode_185 5 rfl ?_
    refine r_iconst (pc := 187) C (v := (2 : Int32)) dX1_fitCode_187 (by decide) ?_
    refine r_idiv (pc := 188) C dX1_fitCode_188 (by decide) ?_
    refine r_topi (fun x2 ex2 => ?_)
    have h := h x2 ex2
    refine r_imul (pc := 189) C dX1_fitCode_189 ?_
    refine r_bipush (pc := 190) C (v := (100 : Int32)) dX1_fitCode_190 (by decide) ?_
    refine r_iload (pc := 192) C dX1_fitCode_192 5 rfl ?_
    refine r_iconst (pc := 194) C (v := (2 : Int32)) dX1_fitCode_194 (by decide) ?_
    refine r_irem (pc := 195) C dX1_fitCode_195 (by decide) ?_
    refine r_topi (fun x3 ex3 => ?_)
    have h := h x3 ex3
    refine r_imul (pc := 196) C dX1_fitCode_196 ?_
    refine r_iadd (pc := 197) C dX1_fitCode_197 ?_
    refine r_bipush (pc := 198) C (v := (10 : Int32)) dX1_fitCode_198 (by decide) ?_
    refine r_iload (pc := 200) C dX1_fitCode_200 4 rfl ?_
    refine r_imul (pc := 202) C dX1_fitCode_202 ?_
    refine r_iadd (pc := 203) C dX1_fitCode_203 ?_
    refine r_iload (pc := 204) C dX1_fitCode_204 3 rfl ?_
    refine r_iadd (pc := 206) C dX1_fitCode_206 ?_
    exact r_iret (pc := 207) C E ht dX1_fitCode_207 (by decide) (by decide) h
  · have h := h.2 c1
    refine r_aload_n (pc := 147) C dX1_fitCode_147 0 rfl ?_
    obtain ⟨o_v0, h⟩ := h
    obtain ⟨a4, ea4, h⟩ := h
    refine r_getr (pc := 148) C fL_X1_9 dX1_fitCode_148 o_v0 ea4 ?_
    refine r_iload (pc := 151) C dX1_fitCode_151 6 rfl ?_
    obtain ⟨o_a4, h⟩ := h
    obtain ⟨i5, h⟩ := h
    refine r_lald (pc := 153) C dX1_fitCode_153 o_a4 i5 ?_
    refine r_topl (fun x6 ex6 => ?_)
    have h := h x6 ex6
    refine r_aload_n (pc := 154) C dX1_fitCode_154 1 rfl ?_
    obtain ⟨o_v1, h⟩ := h
    obtain ⟨a7, ea7, h⟩ := h
    refine r_getr (pc := 155) C fL_X1_144 dX1_fitCode_155 o_v1 ea7 ?_
    refine r_iload_n (pc := 158) C dX1_fitCode_158 2 rfl ?_
    refine r_iconst (pc := 159) C (v := (5 : Int32)) dX1_fitCode_159 (by decide) ?_
    refine r_imul (pc := 160) C dX1_fitCode_160 ?_
    refine r_iload (pc := 161) C dX1_fitCode_161 6 rfl ?_
    refine r_iadd (pc := 163) C dX1_fitCode_163 ?_
    obtain ⟨o_a7, h⟩ := h
    refine r_topi (fun x9 ex9 => ?_)
    have h := h x9 ex9
    obtain ⟨i8, h⟩ := h
    refine r_iald (pc := 164) C dX1_fitCode_164 o_a7 i8 ?_
    refine r_topi (fun x10 ex10 => ?_)
    have h := h x10 ex10
    refine r_i2l (pc := 165) C dX1_fitCode_165 ?_
    refine r_ldc2 (pc := 166) C (v := (2520 : Int64)) dX1_fitCode_166 g_948 ?_
    refine r_lmul (pc := 169) C dX1_fitCode_169 ?_
    refine r_lcmp (pc := 170) C dX1_fitCode_170 ?_
    refine r_if_eq (pc := 171) C (tgt := 176) dX1_fitCode_171 (by decide) (fun c11 => ?_) (fun c11 => ?_)
    · have h := h.1 c11
      obtain ⟨x12, ex12⟩ : ∃ z : Int32, z = v8 + (1 : Int32) := ⟨_, rfl⟩
      have h := h x12 ex12
      refine r_iinc (pc := 176) C (v := x12) (lv' := [(8, .int x12), (0, .ref v0), (1, .ref v1), (2, .int v2), (4, .int v4), (5, .int v5), (6, .int v6)]) dX1_fitCode_176 6 rfl ex12.symm (by decide) rfl ?_
      refine r_goto (pc := 179) C (tgt := 141) dX1_fitCode_179 (by decide) ?_
      exact r_sub [1, 2, 3, 4, 5, 6, 0] rfl (hX141 v0 v1 v2 v4 v5 v6 x12 S h)
    · have h := h.2 c11
      refine r_iconst (pc := 174) C (v := (-1 : Int32)) dX1_fitCode_174 (by decide) ?_
      exact r_iret (pc := 175) C E ht dX1_fitCode_175 (by decide) (by decide) h
theorem T_X1_fitCode_141 {X : CX} {Q : Int32 → HS → Prop} (C : Cx X cX1_fitCode RX1 9 rm_X1_fitCode) (E : ReI X rm_X1_fitCode Q) (ht : (xh X).sig.returnType = (some .int)) (hn : (xh X).name = yX1_fitCode.name) {v0 : Nat} {v1 : Nat} {v2 : Int32} {v4 : Int32} {v5 : Int32} {v6 : Int32} {v8 : Int32} {S : HS} (h : P_X1_fitCode_141 Q v0 v1 v2 v4 v5 v6 v8 S) : WS X 9 0 0 141 [(0, .ref v0), (1, .ref v1), (2, .int v2), (4, .int v4), (5, .int v5), (6, .int v6), (8, .int v8)] [] S :=
  h (fun v0 v1 v2 v4 v5 v6 v8 S => WS X 9 0 0 141 [(0, .ref v0), (1, .ref v1), (2, .int v2), (4, .int v4), (5, .int v5), (6, .int v6), (8, .int v8)] [] S) (fun v0 v1 v2 v4 v5 v6 v8 S hh => TB_X1_fitCode_141 C E ht hn (fun v0 v1 v2 v4 v5 v6 v8 S z => z) hh)
def P_X1_fitCode_0 (Q : Int32 → HS → Prop) (v0 : Nat) (v1 : Nat) (v2 : Int32) (v3 : Int32) (S : HS) : Prop := ((v3 < 0) → (Q (-1 : Int32) S)) ∧ ((¬ v3 < 0) → (P_X1_legsOf v1 (fun x4 S2 => Gr S S2 → (((x4 ≤ v3) → (Q (-1 : Int32) S2)) ∧ ((¬ x4 ≤ v3) → (ob S2 v1 8 ∧ (P_X8_hasSeen v1 v2 (fun x8 S6 => Gr S2 S6 → bl x8 → (((x8 = 0) → (Q (-1 : Int32) S6)) ∧ ((¬ x8 = 0) → (∀ x10 : Int32, x10 = fI S6 v1 1 → (((0 < x10) → (∀ x12 : Int32, x12 = v3 - v3 / (9 : Int32) * (9 : Int32) → (∀ x13 : Int32, x13 = x12 + (1 : Int32) → (∀ x14 : Int32, x14 = v3 / (9 : Int32) → (∀ x15 : Int32, x15 = fI S6 v1 1 → (¬ x15 = 0 ∧ ∀ x17 : Int32, x17 = x14 - x14 / x15 * x15 → (∀ x18 : Int32, x18 = v3 / (9 : Int32) → (∀ x19 : Int32, x19 = fI S6 v1 1 → (¬ x19 = 0 ∧ ∀ x21 : Int32, x21 = x18 / x19 → (∃ a22 : Nat, fR S6 v1 10 = some a22 ∧ (ob S6 a22 13 ∧ (vp_in v2 (hN S6 a22) ∧ ∀ x24 : Int32, x24 = fI S6 a22 v2.toNatClampNeg → (P_X8_hasWalker v1 x24 (fun x27 S25 => Gr S6 S25 → bl x27 → (((x27 = 0) → (Q (-1 : Int32) S25)) ∧ ((¬ x27 = 0) → (∀ x29 : Int32, x29 = x21 / (2 : Int32) → (P_X8_hasRoad v1 x29 (fun x32 S30 => Gr S25 S30 → bl x32 → (((x32 = 0) → (Q (-1 : Int32) S30)) ∧ ((¬ x32 = 0) → (∃ a34 : Nat, fR S30 v1 9 = some a34 ∧ (ob S30 a34 19 ∧ (vp_in x24 (hN S30 a34) ∧ ∃ a36 : Nat, fR S30 a34 x24.toNatClampNeg = some a36 ∧ (ob S30 a36 6 ∧ (P_X6_canGo a36 x13 (fun x39 S37 => Gr S30 S37 → bl x39 → (((¬ x39 = 0) → (∃ a41 : Nat, fR S37 v1 9 = some a41 ∧ (ob S37 a41 19 ∧ (vp_in x24 (hN S37 a41) ∧ ∃ a43 : Nat, fR S37 a41 x24.toNatClampNeg = some a43 ∧ (∃ a44 : Nat, fR S37 v1 8 = some a44 ∧ (∀ x45 : Int32, x45 = x21 / (2 : Int32) → (ob S37 a44 18 ∧ (vp_in x45 (hN S37 a44) ∧ ∃ a47 : Nat, fR S37 a44 x45.toNatClampNeg = some a47 ∧ (∀ x48 : Int32, x48 = x21 - x21 / (2 : Int32) * (2 : Int32) → (∃ a49 : Nat, fR S37 v1 6 = some a49 ∧ (ob S37 a49 17 ∧ (vp_in x17 (hN S37 a49) ∧ ∃ a51 : Nat, fR S37 a49 x17.toNatClampNeg = some a51 ∧ (ob S37 v0 1 ∧ (P_X1_wetOf v0 a43 a47 x48 a51 x13 (fun x54 S52 => Gr S37 S52 → (P_X1_fitCode_141 Q v0 v1 v2 x13 x17 x21 (0 : Int32) S52)) S37)))))))))))))) ∧ ((x39 = 0) → (Q (-1 : Int32) S37)))) S30)))))))) S25))))) S6))))))))))))) ∧ ((¬ 0 < x10) → (Q (-1 : Int32) S6))))))) S2))))) S))
set_option maxRecDepth 20000 in
set_option maxHeartbeats 4000000 in
theorem T_X1_fitCode_0 {X : CX} {Q : Int32 → HS → Prop} (C : Cx X cX1_fitCode RX1 9 rm_X1_fitCode) (E : ReI X rm_X1_fitCode Q) (ht : (xh X).sig.returnType = (some .int)) (hn : (xh X).name = yX1_fitCode.name) {v0 : Nat} {v1 : Nat} {v2 : Int32} {v3 : Int32} {S : HS} (h : P_X1_fitCode_0 Q v0 v1 v2 v3 S) : WS X 9 0 0 0 [(0, .ref v0), (1, .ref v1), (2, .int v2), (3, .int v3)] [] S := by
  refine r_iload_n (pc := 0) C dX1_fitCode_0 3 rfl ?_
  refine r_if_lt (pc := 1) C (tgt := 27) dX1_fitCode_1 (by decide) (fun c1 => ?_) (fun c1 => ?_)
  · have h := h.1 c1
    refine r_iconst (pc := 27) C (v := (-1 : Int32)) dX1_fitCode_27 (by decide) ?_
    exact r_iret (pc := 28) C E ht dX1_fitCode_28 (by decide) (by decide) h
  · have h := h.2 c1
    refine r_iload_n (pc := 4) C dX1_fitCode_4 3 rfl ?_
    refine r_aload_n (pc := 5) C dX1_fitCode_5 1 rfl ?_
    refine r_callSi0 (pc := 6) C (rest := [.int v3]) rfl [.ref v1] yS_X1_legsOf g_937 (c_X1_legsOf h) dX1_fitCode_6 rfl rfl (Nat.le_of_ble_eq_true rfl) ⟨by decide, by decide⟩ ⟨by decide, by decide⟩ ⟨rfl, rfl⟩ (fun x4 S2 h g3 => ?_)
    have h := h g3
    refine r_icmp_ge (pc := 9) C (tgt := 27) dX1_fitCode_9 (by decide) (fun c5 => ?_) (fun c5 => ?_)
    · have h := h.1 c5
      refine r_iconst (pc := 27) C (v := (-1 : Int32)) dX1_fitCode_27 (by decide) ?_
      exact r_iret (pc := 28) C E ht dX1_fitCode_28 (by decide) (by decide) h
    · have h := h.2 c5
      refine r_aload_n (pc := 12) C dX1_fitCode_12 1 rfl ?_
      refine r_iload_n (pc := 13) C dX1_fitCode_13 2 rfl ?_
      obtain ⟨o_v1, h⟩ := h
      refine r_callVi0 (pc := 14) C (rest := []) (a := v1) o_v1 [.int v2] yV_X8_hasSeen g_944 (c_X8_hasSeen h) dX1_fitCode_14 rfl rfl (Nat.le_of_ble_eq_true rfl) ⟨by decide, by decide⟩ ⟨by decide, by decide⟩ ⟨rfl, rfl⟩ (fun x8 S6 h g7 => ?_)
      have bx8 := h.1
      have h := h.2 g7 bx8
      have o_v1 := gr_ob g7 o_v1
      refine r_if_eq (pc := 17) C (tgt := 27) dX1_fitCode_17 (by decide) (fun c9 => ?_) (fun c9 => ?_)
      · have h := h.1 c9
        refine r_iconst (pc := 27) C (v := (-1 : Int32)) dX1_fitCode_27 (by decide) ?_
        exact r_iret (pc := 28) C E ht dX1_fitCode_28 (by decide) (by decide) h
      · have h := h.2 c9
        refine r_aload_n (pc := 20) C dX1_fitCode_20 1 rfl ?_
        refine r_geti (pc := 21) C fL_X1_112 dX1_fitCode_21 o_v1 ?_
        refine r_topi (fun x10 ex10 => ?_)
        have h := h x10 ex10
        refine r_if_gt (pc := 24) C (tgt := 29) dX1_fitCode_24 (by decide) (fun c11 => ?_) (fun c11 => ?_)
        · have h := h.1 c11
          refine r_iload_n (pc := 29) C dX1_fitCode_29 3 rfl ?_
          refine r_bipush (pc := 30) C (v := (9 : Int32)) dX1_fitCode_30 (by decide) ?_
          refine r_irem (pc := 32) C dX1_fitCode_32 (by decide) ?_
          refine r_topi (fun x12 ex12 => ?_)
          have h := h x12 ex12
          refine r_iconst (pc := 33) C (v := (1 : Int32)) dX1_fitCode_33 (by decide) ?_
          refine r_iadd (pc := 34) C dX1_fitCode_34 ?_
          refine r_topi (fun x13 ex13 => ?_)
          have h := h x13 ex13
          refine r_istore (pc := 35) C dX1_fitCode_35 (by decide) (lv' := [(4, .int x13), (0, .ref v0), (1, .ref v1), (2, .int v2), (3, .int v3)]) rfl ?_
          refine r_iload_n (pc := 37) C dX1_fitCode_37 4 rfl ?_
          refine r_bipush (pc := 38) C (v := (9 : Int32)) dX1_fitCode_38 (by decide) ?_
          refine r_idiv (pc := 40) C dX1_fitCode_40 (by decide) ?_
          refine r_topi (fun x14 ex14 => ?_)
          have h := h x14 ex14
          refine r_aload_n (pc := 41) C dX1_fitCode_41 2 rfl ?_
          refine r_geti (pc := 42) C fL_X1_112 dX1_fitCode_42 o_v1 ?_
          refine r_topi (fun x15 ex15 => ?_)
          have h := h x15 ex15
          obtain ⟨q16, h⟩ := h
          refine r_irem (pc := 45) C dX1_fitCode_45 q16 ?_
          refine r_topi (fun x17 ex17 => ?_)
          have h := h x17 ex17
          refine r_istore (pc := 46) C dX1_fitCode_46 (by decide) (lv' := [(5, .int x17), (4, .int x13), (0, .ref v0), (1, .ref v1), (2, .int v2), (3, .int v3)]) rfl ?_
          refine r_iload_n (pc := 48) C dX1_fitCode_48 5 rfl ?_
          refine r_bipush (pc := 49) C (v := (9 : Int32)) dX1_fitCode_49 (by decide) ?_
          refine r_idiv (pc := 51) C dX1_fitCode_51 (by decide) ?_
          refine r_topi (fun x18 ex18 => ?_)
          have h := h x18 ex18
          refine r_aload_n (pc := 52) C dX1_fitCode_52 3 rfl ?_
          refine r_geti (pc := 53) C fL_X1_112 dX1_fitCode_53 o_v1 ?_
          refine r_topi (fun x19 ex19 => ?_)
          have h := h x19 ex19
          obtain ⟨q20, h⟩ := h
          refine r_idiv (pc := 56) C dX1_fitCode_56 q20 ?_
          refine r_topi (fun x21 ex21 => ?_)
          have h := h x21 ex21
          refine r_istore (pc := 57) C dX1_fitCode_57 (by decide) (lv' := [(6, .int x21), (5, .int x17), (4, .int x13), (0, .ref v0), (1, .ref v1), (2, .int v2), (3, .int v3)]) rfl ?_
          refine r_aload_n (pc := 59) C dX1_fitCode_59 4 rfl ?_
          obtain ⟨a22, ea22, h⟩ := h
          refine r_getr (pc := 60) C fL_X1_119 dX1_fitCode_60 o_v1 ea22 ?_
          refine r_iload_n (pc := 63) C dX1_fitCode_63 5 rfl ?_
          obtain ⟨o_a22, h⟩ := h
          obtain ⟨i23, h⟩ := h
          refine r_iald (pc := 64) C dX1_fitCode_64 o_a22 i23 ?_
          refine r_topi (fun x24 ex24 => ?_)
          have h := h x24 ex24
          refine r_istore (pc := 65) C dX1_fitCode_65 (by decide) (lv' := [(7, .int x24), (6, .int x21), (5, .int x17), (4, .int x13), (0, .ref v0), (1, .ref v1), (2, .int v2), (3, .int v3)]) rfl ?_
          refine r_aload_n (pc := 67) C dX1_fitCode_67 5 rfl ?_
          refine r_iload (pc := 68) C dX1_fitCode_68 0 rfl ?_
          refine r_callVi0 (pc := 70) C (rest := []) (a := v1) o_v1 [.int x24] yV_X8_hasWalker g_945 (c_X8_hasWalker h) dX1_fitCode_70 rfl rfl (Nat.le_of_ble_eq_true rfl) ⟨by decide, by decide⟩ ⟨by decide, by decide⟩ ⟨rfl, rfl⟩ (fun x27 S25 h g26 => ?_)
          have bx27 := h.1
          have h := h.2 g26 bx27
          have o_a22 := gr_ob g26 o_a22
          have o_v1 := gr_ob g26 o_v1
          refine r_if_eq (pc := 73) C (tgt := 102) dX1_fitCode_73 (by decide) (fun c28 => ?_) (fun c28 => ?_)
          · have h := h.1 c28
            refine r_iconst (pc := 102) C (v := (-1 : Int32)) dX1_fitCode_102 (by decide) ?_
            exact r_iret (pc := 103) C E ht dX1_fitCode_103 (by decide) (by decide) h
          · have h := h.2 c28
            refine r_aload_n (pc := 76) C dX1_fitCode_76 5 rfl ?_
            refine r_iload (pc := 77) C dX1_fitCode_77 1 rfl ?_
            refine r_iconst (pc := 79) C (v := (2 : Int32)) dX1_fitCode_79 (by decide) ?_
            refine r_idiv (pc := 80) C dX1_fitCode_80 (by decide) ?_
            refine r_topi (fun x29 ex29 => ?_)
            have h := h x29 ex29
            refine r_callVi0 (pc := 81) C (rest := []) (a := v1) o_v1 [.int x29] yV_X8_hasRoad g_946 (c_X8_hasRoad h) dX1_fitCode_81 rfl rfl (Nat.le_of_ble_eq_true rfl) ⟨by decide, by decide⟩ ⟨by decide, by decide⟩ ⟨rfl, rfl⟩ (fun x32 S30 h g31 => ?_)
            have bx32 := h.1
            have h := h.2 g31 bx32
            have o_a22 := gr_ob g31 o_a22
            have o_v1 := gr_ob g31 o_v1
            refine r_if_eq (pc := 84) C (tgt := 102) dX1_fitCode_84 (by decide) (fun c33 => ?_) (fun c33 => ?_)
            · have h := h.1 c33
              refine r_iconst (pc := 102) C (v := (-1 : Int32)) dX1_fitCode_102 (by decide) ?_
              exact r_iret (pc := 103) C E ht dX1_fitCode_103 (by decide) (by decide) h
            · have h := h.2 c33
              refine r_aload_n (pc := 87) C dX1_fitCode_87 5 rfl ?_
              obtain ⟨a34, ea34, h⟩ := h
              refine r_getr (pc := 88) C fL_X1_129 dX1_fitCode_88 o_v1 ea34 ?_
              refine r_iload (pc := 91) C dX1_fitCode_91 0 rfl ?_
              obtain ⟨o_a34, h⟩ := h
              obtain ⟨i35, a36, ea36, h⟩ := h
              refine r_aald19 (pc := 93) C dX1_fitCode_93 o_a34 i35 ea36 ?_
              refine r_iload (pc := 94) C dX1_fitCode_94 3 rfl ?_
              obtain ⟨o_a36, h⟩ := h
              refine r_callVi0 (pc := 96) C (rest := []) (a := a36) o_a36 [.int x13] yV_X6_canGo g_947 (c_X6_canGo h) dX1_fitCode_96 rfl rfl (Nat.le_of_ble_eq_true rfl) ⟨by decide, by decide⟩ ⟨by decide, by decide⟩ ⟨rfl, rfl⟩ (fun x39 S37 h g38 => ?_)
              have bx39 := h.1
              have h := h.2 g38 bx39
              have o_a22 := gr_ob g38 o_a22
              have o_a34 := gr_ob g38 o_a34
              have o_a36 := gr_ob g38 o_a36
              have o_v1 := gr_ob g38 o_v1
              refine r_if_ne (pc := 99) C (tgt := 104) dX1_fitCode_99 (by decide) (fun c40 => ?_) (fun c40 => ?_)
              · have h := h.1 c40
                refine r_aload_n (pc := 104) C dX1_fitCode_104 4 rfl ?_
                refine r_aload_n (pc := 105) C dX1_fitCode_105 5 rfl ?_
                obtain ⟨a41, ea41, h⟩ := h
                refine r_getr (pc := 106) C fL_X1_129 dX1_fitCode_106 o_v1 ea41 ?_
                refine r_iload (pc := 109) C dX1_fitCode_109 0 rfl ?_
                obtain ⟨o_a41, h⟩ := h
                obtain ⟨i42, a43, ea43, h⟩ := h
                refine r_aald19 (pc := 111) C dX1_fitCode_111 o_a41 i42 ea43 ?_
                refine r_aload_n (pc := 112) C dX1_fitCode_112 5 rfl ?_
                obtain ⟨a44, ea44, h⟩ := h
                refine r_getr (pc := 113) C fL_X1_136 dX1_fitCode_113 o_v1 ea44 ?_
                refine r_iload (pc := 116) C dX1_fitCode_116 1 rfl ?_
                refine r_iconst (pc := 118) C (v := (2 : Int32)) dX1_fitCode_118 (by decide) ?_
                refine r_idiv (pc := 119) C dX1_fitCode_119 (by decide) ?_
                refine r_topi (fun x45 ex45 => ?_)
                have h := h x45 ex45
                obtain ⟨o_a44, h⟩ := h
                obtain ⟨i46, a47, ea47, h⟩ := h
                refine r_aald18 (pc := 120) C dX1_fitCode_120 o_a44 i46 ea47 ?_
                refine r_iload (pc := 121) C dX1_fitCode_121 1 rfl ?_
                refine r_iconst (pc := 123) C (v := (2 : Int32)) dX1_fitCode_123 (by decide) ?_
                refine r_irem (pc := 124) C dX1_fitCode_124 (by decide) ?_
                refine r_topi (fun x48 ex48 => ?_)
                have h := h x48 ex48
                refine r_aload_n (pc := 125) C dX1_fitCode_125 5 rfl ?_
                obtain ⟨a49, ea49, h⟩ := h
                refine r_getr (pc := 126) C fL_X1_140 dX1_fitCode_126 o_v1 ea49 ?_
                refine r_iload (pc := 129) C dX1_fitCode_129 2 rfl ?_
                obtain ⟨o_a49, h⟩ := h
                obtain ⟨i50, a51, ea51, h⟩ := h
                refine r_aald17 (pc := 131) C dX1_fitCode_131 o_a49 i50 ea51 ?_
                refine r_iload (pc := 132) C dX1_fitCode_132 3 rfl ?_
                obtain ⟨o_v0, h⟩ := h
                refine r_callVl0 (pc := 134) C (rest := []) (a := v0) o_v0 [.ref a43, .ref a47, .int x48, .ref a51, .int x13] yV_X1_wetOf g_765 (c_X1_wetOf h) dX1_fitCode_134 rfl rfl (Nat.le_of_ble_eq_true rfl) ⟨by decide, by decide⟩ ⟨by decide, by decide⟩ ⟨rfl, rfl⟩ (fun x54 S52 h g53 => ?_)
                have h := h g53
                have o_a22 := gr_ob g53 o_a22
                have o_a34 := gr_ob g53 o_a34
                have o_a36 := gr_ob g53 o_a36
                have o_a41 := gr_ob g53 o_a41
                have o_a44 := gr_ob g53 o_a44
                have o_a49 := gr_ob g53 o_a49
                have o_v0 := gr_ob g53 o_v0
                have o_v1 := gr_ob g53 o_v1
                refine r_pop2 (pc := 137) C dX1_fitCode_137 rfl ?_
                refine r_iconst (pc := 138) C (v := (0 : Int32)) dX1_fitCode_138 (by decide) ?_
                refine r_istore (pc := 139) C dX1_fitCode_139 (by decide) (lv' := [(8, .int (0 : Int32)), (7, .int x24), (6, .int x21), (5, .int x17), (4, .int x13), (0, .ref v0), (1, .ref v1), (2, .int v2), (3, .int v3)]) rfl ?_
                exact r_sub [5, 6, 7, 4, 3, 2, 0] rfl (T_X1_fitCode_141 C E ht hn h)
              · have h := h.2 c40
                refine r_iconst (pc := 102) C (v := (-1 : Int32)) dX1_fitCode_102 (by decide) ?_
                exact r_iret (pc := 103) C E ht dX1_fitCode_103 (by decide) (by decide) h
        · have h := h.2 c11
          refine r_iconst (pc := 27) C (v := (-1 : Int32)) dX1_fitCode_27 (by decide) ?_
          exact r_iret (pc := 28) C E ht dX1_fitCode_28 (by decide) (by decide) h
def P_X1_fitCode (v0 : Nat) (v1 : Nat) (v2 : Int32) (v3 : Int32) (Q : Int32 → HS → Prop) (S : HS) : Prop := P_X1_fitCode_0 Q v0 v1 v2 v3 S
theorem c_X1_fitCode {l : Launch} {Ee : EE} {S : HS} {v0 : Nat} {v1 : Nat} {v2 : Int32} {v3 : Int32} {Q : Int32 → HS → Prop} (h : P_X1_fitCode v0 v1 v2 v3 Q S) : MI l yX1_fitCode cX1_fitCode 9 (some .int) rm_X1_fitCode Ee S [.ref v0, .ref v1, .int v2, .int v3] Q :=
  openI (by decide) (Nat.le_of_ble_eq_true rfl) (fun X C E ht hn hE hl => by subst hE; exact r_sub [0, 1, 2, 3] rfl (T_X1_fitCode_0 C E ht hn h))
