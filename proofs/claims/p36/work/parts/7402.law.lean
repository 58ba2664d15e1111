section
def P_L_law_1285 (scL : Nat) (scx : Nat → Int32) (Q : Int32 → HS → Prop) (X23 : Nat → Nat → Nat → Int32 → Nat → Nat → HS → Prop) (v1 : Nat) (v2 : Nat) (v3 : Nat) (v4 : Int32) (s0 : Nat) (s1 : Int32) (s2 : Int32) (s3 : Int32) (s4 : Int32) (s5 : Int32) (s6 : Int32) (s7 : Int32) (kk : Nat) (nn : Nat) (S : HS) : Prop := ob S s0 9 ∧ (kk ≤ rm_L_law.cells ∧ nn ≤ rm_L_law.slots ∧ (P_X9_lee s0 s1 s2 s3 s4 s5 s6 s7 (fun x3 S1 => Gr S S1 → (∀ x4 : Int32, x4 = v4 + (1 : Int32) → (vp_in x4 scL ∧ ∀ x6 : Int32, x6 = scx x4.toNatClampNeg → (∀ x7 : Int32, x7 = v4 + (2 : Int32) → (vp_in x7 scL ∧ ∀ x9 : Int32, x9 = scx x7.toNatClampNeg → (∀ x10 : Int32, x10 = v4 + (3 : Int32) → (vp_in x10 scL ∧ ∀ x12 : Int32, x12 = scx x10.toNatClampNeg → (∀ x13 : Int32, x13 = v4 + (4 : Int32) → (vp_in x13 scL ∧ ∀ x15 : Int32, x15 = scx x13.toNatClampNeg → (∀ x16 : Int32, x16 = v4 + (5 : Int32) → (vp_in x16 scL ∧ ∀ x18 : Int32, x18 = scx x16.toNatClampNeg → (∀ x19 : Int32, x19 = v4 + (6 : Int32) → (vp_in x19 scL ∧ ∀ x21 : Int32, x21 = scx x19.toNatClampNeg → (∀ x22 : Int32, x22 = v4 + (7 : Int32) → (vp_in x22 scL ∧ ∀ x24 : Int32, x24 = scx x22.toNatClampNeg → (((x24 = 0) → (P_L_law_1342 scL scx Q X23 v1 v2 v3 v4 v2 x6 x9 x12 x15 x18 x21 (0 : Int32) kk nn S1)) ∧ ((¬ x24 = 0) → (P_L_law_1342 scL scx Q X23 v1 v2 v3 v4 v2 x6 x9 x12 x15 x18 x21 (1 : Int32) kk nn S1)))))))))))))))))) S))
set_option maxRecDepth 20000 in
set_option maxHeartbeats 4000000 in
theorem T_L_law_1285 {X : CX} {Q : Int32 → HS → Prop} {scb scL : Nat} {scx : Nat → Int32} (C : Cx X cL_law RL 7 rm_L_law) (E : LE X scb scL scx Q) (ht : LD X) (hn : True) {X23 : Nat → Nat → Nat → Int32 → Nat → Nat → HS → Prop} (hX23 : ∀ (v1 : Nat) (v2 : Nat) (v3 : Nat) (v4 : Int32) (kk : Nat) (nn : Nat) (S : HS), X23 v1 v2 v3 v4 kk nn S → WS X 7 kk nn 23 [(0, .ref scb), (1, .ref v1), (2, .ref v2), (3, .ref v3), (4, .int v4)] [] S) {v1 : Nat} {v2 : Nat} {v3 : Nat} {v4 : Int32} {s0 : Nat} {s1 : Int32} {s2 : Int32} {s3 : Int32} {s4 : Int32} {s5 : Int32} {s6 : Int32} {s7 : Int32} {kk : Nat} {nn : Nat} {S : HS} (h : P_L_law_1285 scL scx Q X23 v1 v2 v3 v4 s0 s1 s2 s3 s4 s5 s6 s7 kk nn S) : WS X 7 kk nn 1285 [(0, .ref scb), (1, .ref v1), (2, .ref v2), (3, .ref v3), (4, .int v4)] [.int s7, .int s6, .int s5, .int s4, .int s3, .int s2, .int s1, .ref s0] S := by
  obtain ⟨o_s0, h⟩ := h
  obtain ⟨hk, hk2, h⟩ := h
  refine r_callVl0 (pc := 1285) C (rest := []) (a := s0) o_s0 [.int s1, .int s2, .int s3, .int s4, .int s5, .int s6, .int s7] yV_X9_lee g_797 (c_X9_lee h) dL_law_1285 rfl rfl (Nat.le_of_ble_eq_true rfl) ⟨by decide, by decide⟩ ⟨hk, hk2⟩ ⟨rfl, rfl⟩ (fun x3 S1 h g2 => ?_)
  have h := h g2
  have o_s0 := gr_ob g2 o_s0
  refine r_pop2 (pc := 1288) C dL_law_1288 rfl ?_
  refine r_aload_n (pc := 1289) C dL_law_1289 2 rfl ?_
  refine r_aload_n (pc := 1290) C dL_law_1290 0 rfl ?_
  refine r_iload (pc := 1291) C dL_law_1291 4 rfl ?_
  refine r_iconst (pc := 1293) C (v := (1 : Int32)) dL_law_1293 (by decide) ?_
  refine r_iadd (pc := 1294) C dL_law_1294 ?_
  refine r_topi (fun x4 ex4 => ?_)
  have h := h x4 ex4
  obtain ⟨i5, h⟩ := h
  refine r_scLd (pc := 1295) C E i5 dL_law_1295 ?_
  refine r_topi (fun x6 ex6 => ?_)
  have h := h x6 ex6
  refine r_aload_n (pc := 1296) C dL_law_1296 0 rfl ?_
  refine r_iload (pc := 1297) C dL_law_1297 4 rfl ?_
  refine r_iconst (pc := 1299) C (v := (2 : Int32)) dL_law_1299 (by decide) ?_
  refine r_iadd (pc := 1300) C dL_law_1300 ?_
  refine r_topi (fun x7 ex7 => ?_)
  have h := h x7 ex7
  obtain ⟨i8, h⟩ := h
  refine r_scLd (pc := 1301) C E i8 dL_law_1301 ?_
  refine r_topi (fun x9 ex9 => ?_)
  have h := h x9 ex9
  refine r_aload_n (pc := 1302) C dL_law_1302 0 rfl ?_
  refine r_iload (pc := 1303) C dL_law_1303 4 rfl ?_
  refine r_iconst (pc := 1305) C (v := (3 : Int32)) dL_law_1305 (by decide) ?_
  refine r_iadd (pc := 1306) C dL_law_1306 ?_
  refine r_topi (fun x10 ex10 => ?_)
  have h := h x10 ex10
  obtain ⟨i11, h⟩ := h
  refine r_scLd (pc := 1307) C E i11 dL_law_1307 ?_
  refine r_topi (fun x12 ex12 => ?_)
  have h := h x12 ex12
  refine r_aload_n (pc := 1308) C dL_law_1308 0 rfl ?_
  refine r_iload (pc := 1309) C dL_law_1309 4 rfl ?_
  refine r_iconst (pc := 1311) C (v := (4 : Int32)) dL_law_1311 (by decide) ?_
  refine r_iadd (pc := 1312) C dL_law_1312 ?_
  refine r_topi (fun x13 ex13 => ?_)
  have h := h x13 ex13
  obtain ⟨i14, h⟩ := h
  refine r_scLd (pc := 1313) C E i14 dL_law_1313 ?_
  refine r_topi (fun x15 ex15 => ?_)
  have h := h x15 ex15
  refine r_aload_n (pc := 1314) C dL_law_1314 0 rfl ?_
  refine r_iload (pc := 1315) C dL_law_1315 4 rfl ?_
  refine r_iconst (pc := 1317) C (v := (5 : Int32)) dL_law_1317 (by decide) ?_
  refine r_iadd (pc := 1318) C dL_law_1318 ?_
  refine r_topi (fun x16 ex16 => ?_)
  have h := h x16 ex16
  obtain ⟨i17, h⟩ := h
  refine r_scLd (pc := 1319) C E i17 dL_law_1319 ?_
  refine r_topi (fun x18 ex18 => ?_)
  have h := h x18 ex18
  refine r_aload_n (pc := 1320) C dL_law_1320 0 rfl ?_
  refine r_iload (pc := 1321) C dL_law_1321 4 rfl ?_
  refine r_bipush (pc := 1323) C (v := (6 : Int32)) dL_law_1323 (by decide) ?_
  refine r_iadd (pc := 1325) C dL_law_1325 ?_
  refine r_topi (fun x19 ex19 => ?_)
  have h := h x19 ex19
  obtain ⟨i20, h⟩ := h
  refine r_scLd (pc := 1326) C E i20 dL_law_1326 ?_
  refine r_topi (fun x21 ex21 => ?_)
  have h := h x21 ex21
  refine r_aload_n (pc := 1327) C dL_law_1327 0 rfl ?_
  refine r_iload (pc := 1328) C dL_law_1328 4 rfl ?_
  refine r_bipush (pc := 1330) C (v := (7 : Int32)) dL_law_1330 (by decide) ?_
  refine r_iadd (pc := 1332) C dL_law_1332 ?_
  refine r_topi (fun x22 ex22 => ?_)
  have h := h x22 ex22
  obtain ⟨i23, h⟩ := h
  refine r_scLd (pc := 1333) C E i23 dL_law_1333 ?_
  refine r_topi (fun x24 ex24 => ?_)
  have h := h x24 ex24
  refine r_if_eq (pc := 1334) C (tgt := 1341) dL_law_1334 (by decide) (fun c25 => ?_) (fun c25 => ?_)
  · have h := h.1 c25
    refine r_iconst (pc := 1341) C (v := (0 : Int32)) dL_law_1341 (by decide) ?_
    exact r_sub [0, 1, 2, 3, 4] rfl (T_L_law_1342 C E ht hn hX23 h)
  · have h := h.2 c25
    refine r_iconst (pc := 1337) C (v := (1 : Int32)) dL_law_1337 (by decide) ?_
    refine r_goto (pc := 1338) C (tgt := 1342) dL_law_1338 (by decide) ?_
    exact r_sub [0, 1, 2, 3, 4] rfl (T_L_law_1342 C E ht hn hX23 h)
def P_L_law_1232 (scL : Nat) (scx : Nat → Int32) (Q : Int32 → HS → Prop) (X23 : Nat → Nat → Nat → Int32 → Nat → Nat → HS → Prop) (v1 : Nat) (v2 : Nat) (v3 : Nat) (v4 : Int32) (kk : Nat) (nn : Nat) (S : HS) : Prop := ∀ x1 : Int32, x1 = v4 + (1 : Int32) → (vp_in x1 scL ∧ ∀ x3 : Int32, x3 = scx x1.toNatClampNeg → (∀ x4 : Int32, x4 = v4 + (2 : Int32) → (vp_in x4 scL ∧ ∀ x6 : Int32, x6 = scx x4.toNatClampNeg → (∀ x7 : Int32, x7 = v4 + (3 : Int32) → (vp_in x7 scL ∧ ∀ x9 : Int32, x9 = scx x7.toNatClampNeg → (∀ x10 : Int32, x10 = v4 + (4 : Int32) → (vp_in x10 scL ∧ ∀ x12 : Int32, x12 = scx x10.toNatClampNeg → (∀ x13 : Int32, x13 = v4 + (5 : Int32) → (vp_in x13 scL ∧ ∀ x15 : Int32, x15 = scx x13.toNatClampNeg → (∀ x16 : Int32, x16 = v4 + (6 : Int32) → (vp_in x16 scL ∧ ∀ x18 : Int32, x18 = scx x16.toNatClampNeg → (∀ x19 : Int32, x19 = v4 + (7 : Int32) → (vp_in x19 scL ∧ ∀ x21 : Int32, x21 = scx x19.toNatClampNeg → (((x21 = 0) → (P_L_law_1285 scL scx Q X23 v1 v2 v3 v4 v1 x3 x6 x9 x12 x15 x18 (0 : Int32) kk nn S)) ∧ ((¬ x21 = 0) → (P_L_law_1285 scL scx Q X23 v1 v2 v3 v4 v1 x3 x6 x9 x12 x15 x18 (1 : Int32) kk nn S))))))))))))))))
set_option maxRecDepth 20000 in
set_option maxHeartbeats 4000000 in
theorem T_L_law_1232 {X : CX} {Q : Int32 → HS → Prop} {scb scL : Nat} {scx : Nat → Int32} (C : Cx X cL_law RL 7 rm_L_law) (E : LE X scb scL scx Q) (ht : LD X) (hn : True) {X23 : Nat → Nat → Nat → Int32 → Nat → Nat → HS → Prop} (hX23 : ∀ (v1 : Nat) (v2 : Nat) (v3 : Nat) (v4 : Int32) (kk : Nat) (nn : Nat) (S : HS), X23 v1 v2 v3 v4 kk nn S → WS X 7 kk nn 23 [(0, .ref scb), (1, .ref v1), (2, .ref v2), (3, .ref v3), (4, .int v4)] [] S) {v1 : Nat} {v2 : Nat} {v3 : Nat} {v4 : Int32} {kk : Nat} {nn : Nat} {S : HS} (h : P_L_law_1232 scL scx Q X23 v1 v2 v3 v4 kk nn S) : WS X 7 kk nn 1232 [(0, .ref scb), (1, .ref v1), (2, .ref v2), (3, .ref v3), (4, .int v4)] [] S := by
  refine r_aload_n (pc := 1232) C dL_law_1232 1 rfl ?_
  refine r_aload_n (pc := 1233) C dL_law_1233 0 rfl ?_
  refine r_iload (pc := 1234) C dL_law_1234 4 rfl ?_
  refine r_iconst (pc := 1236) C (v := (1 : Int32)) dL_law_1236 (by decide) ?_
  refine r_iadd (pc := 1237) C dL_law_1237 ?_
  refine r_topi (fun x1 ex1 => ?_)
  have h := h x1 ex1
  obtain ⟨i2, h⟩ := h
  refine r_scLd (pc := 1238) C E i2 dL_law_1238 ?_
  refine r_topi (fun x3 ex3 => ?_)
  have h := h x3 ex3
  refine r_aload_n (pc := 1239) C dL_law_1239 0 rfl ?_
  refine r_iload (pc := 1240) C dL_law_1240 4 rfl ?_
  refine r_iconst (pc := 1242) C (v := (2 : Int32)) dL_law_1242 (by decide) ?_
  refine r_iadd (pc := 1243) C dL_law_1243 ?_
  refine r_topi (fun x4 ex4 => ?_)
  have h := h x4 ex4
  obtain ⟨i5, h⟩ := h
  refine r_scLd (pc := 1244) C E i5 dL_law_1244 ?_
  refine r_topi (fun x6 ex6 => ?_)
  have h := h x6 ex6
  refine r_aload_n (pc := 1245) C dL_law_1245 0 rfl ?_
  refine r_iload (pc := 1246) C dL_law_1246 4 rfl ?_
  refine r_iconst (pc := 1248) C (v := (3 : Int32)) dL_law_1248 (by decide) ?_
  refine r_iadd (pc := 1249) C dL_law_1249 ?_
  refine r_topi (fun x7 ex7 => ?_)
  have h := h x7 ex7
  obtain ⟨i8, h⟩ := h
  refine r_scLd (pc := 1250) C E i8 dL_law_1250 ?_
  refine r_topi (fun x9 ex9 => ?_)
  have h := h x9 ex9
  refine r_aload_n (pc := 1251) C dL_law_1251 0 rfl ?_
  refine r_iload (pc := 1252) C dL_law_1252 4 rfl ?_
  refine r_iconst (pc := 1254) C (v := (4 : Int32)) dL_law_1254 (by decide) ?_
  refine r_iadd (pc := 1255) C dL_law_1255 ?_
  refine r_topi (fun x10 ex10 => ?_)
  have h := h x10 ex10
  obtain ⟨i11, h⟩ := h
  refine r_scLd (pc := 1256) C E i11 dL_law_1256 ?_
  refine r_topi (fun x12 ex12 => ?_)
  have h := h x12 ex12
  refine r_aload_n (pc := 1257) C dL_law_1257 0 rfl ?_
  refine r_iload (pc := 1258) C dL_law_1258 4 rfl ?_
  refine r_iconst (pc := 1260) C (v := (5 : Int32)) dL_law_1260 (by decide) ?_
  refine r_iadd (pc := 1261) C dL_law_1261 ?_
  refine r_topi (fun x13 ex13 => ?_)
  have h := h x13 ex13
  obtain ⟨i14, h⟩ := h
  refine r_scLd (pc := 1262) C E i14 dL_law_1262 ?_
  refine r_topi (fun x15 ex15 => ?_)
  have h := h x15 ex15
  refine r_aload_n (pc := 1263) C dL_law_1263 0 rfl ?_
  refine r_iload (pc := 1264) C dL_law_1264 4 rfl ?_
  refine r_bipush (pc := 1266) C (v := (6 : Int32)) dL_law_1266 (by decide) ?_
  refine r_iadd (pc := 1268) C dL_law_1268 ?_
  refine r_topi (fun x16 ex16 => ?_)
  have h := h x16 ex16
  obtain ⟨i17, h⟩ := h
  refine r_scLd (pc := 1269) C E i17 dL_law_1269 ?_
  refine r_topi (fun x18 ex18 => ?_)
  have h := h x18 ex18
  refine r_aload_n (pc := 1270) C dL_law_1270 0 rfl ?_
  refine r_iload (pc := 1271) C dL_law_1271 4 rfl ?_
  refine r_bipush (pc := 1273) C (v := (7 : Int32)) dL_law_1273 (by decide) ?_
  refine r_iadd (pc := 1275) C dL_law_1275 ?_
  refine r_topi (fun x19 ex19 => ?_)
  have h := h x19 ex19
  obtain ⟨i20, h⟩ := h
  refine r_scLd (pc := 1276) C E i20 dL_law_1276 ?_
  refine r_topi (fun x21 ex21 => ?_)
  have h := h x21 ex21
  refine r_if_eq (pc := 1277) C (tgt := 1284) dL_law_1277 (by decide) (fun c22 => ?_) (fun c22 => ?_)
  · have h := h.1 c22
    refine r_iconst (pc := 1284) C (v := (0 : Int32)) dL_law_1284 (by decide) ?_
    exact r_sub [0, 1, 2, 3, 4] rfl (T_L_law_1285 C E ht hn hX23 h)
  · have h := h.2 c22
    refine r_iconst (pc := 1280) C (v := (1 : Int32)) dL_law_1280 (by decide) ?_
    refine r_goto (pc := 1281) C (tgt := 1285) dL_law_1281 (by decide) ?_
    exact r_sub [0, 1, 2, 3, 4] rfl (T_L_law_1285 C E ht hn hX23 h)
def P_L_law_1349 (scL : Nat) (scx : Nat → Int32) (Q : Int32 → HS → Prop) (X23 : Nat → Nat → Nat → Int32 → Nat → Nat → HS → Prop) (v1 : Nat) (v2 : Nat) (v3 : Nat) (v4 : Int32) (kk : Nat) (nn : Nat) (S : HS) : Prop := ∀ x1 : Int32, x1 = v4 + (1 : Int32) → (vp_in x1 scL ∧ ∀ x3 : Int32, x3 = scx x1.toNatClampNeg → (∀ x4 : Int32, x4 = v4 + (2 : Int32) → (vp_in x4 scL ∧ ∀ x6 : Int32, x6 = scx x4.toNatClampNeg → (∀ x7 : Int32, x7 = v4 + (3 : Int32) → (vp_in x7 scL ∧ ∀ x9 : Int32, x9 = scx x7.toNatClampNeg → (∀ x10 : Int32, x10 = v4 + (4 : Int32) → (vp_in x10 scL ∧ ∀ x12 : Int32, x12 = scx x10.toNatClampNeg → (∀ x13 : Int32, x13 = v4 + (5 : Int32) → (vp_in x13 scL ∧ ∀ x15 : Int32, x15 = scx x13.toNatClampNeg → (∀ x16 : Int32, x16 = v4 + (6 : Int32) → (vp_in x16 scL ∧ ∀ x18 : Int32, x18 = scx x16.toNatClampNeg → (ob S v1 9 ∧ (kk ≤ rm_L_law.cells ∧ nn ≤ rm_L_law.slots ∧ (P_X9_first v1 x3 x6 x9 x12 x15 x18 (fun x21 S19 => Gr S S19 → (∀ x22 : Int32, x22 = v4 + (1 : Int32) → (vp_in x22 scL ∧ ∀ x24 : Int32, x24 = scx x22.toNatClampNeg → (∀ x25 : Int32, x25 = v4 + (2 : Int32) → (vp_in x25 scL ∧ ∀ x27 : Int32, x27 = scx x25.toNatClampNeg → (∀ x28 : Int32, x28 = v4 + (3 : Int32) → (vp_in x28 scL ∧ ∀ x30 : Int32, x30 = scx x28.toNatClampNeg → (∀ x31 : Int32, x31 = v4 + (4 : Int32) → (vp_in x31 scL ∧ ∀ x33 : Int32, x33 = scx x31.toNatClampNeg → (∀ x34 : Int32, x34 = v4 + (5 : Int32) → (vp_in x34 scL ∧ ∀ x36 : Int32, x36 = scx x34.toNatClampNeg → (∀ x37 : Int32, x37 = v4 + (6 : Int32) → (vp_in x37 scL ∧ ∀ x39 : Int32, x39 = scx x37.toNatClampNeg → (ob S19 v2 11 ∧ (kk ≤ rm_L_law.cells ∧ nn ≤ rm_L_law.slots ∧ (P_X11_first v2 x24 x27 x30 x33 x36 x39 (fun x42 S40 => Gr S19 S40 → (P_L_law_2341 scL scx Q X23 v1 v2 v3 v4 kk nn S40)) S19)))))))))))))))) S))))))))))))))
set_option maxRecDepth 20000 in
set_option maxHeartbeats 4000000 in
theorem T_L_law_1349 {X : CX} {Q : Int32 → HS → Prop} {scb scL : Nat} {scx : Nat → Int32} (C : Cx X cL_law RL 7 rm_L_law) (E : LE X scb scL scx Q) (ht : LD X) (hn : True) {X23 : Nat → Nat → Nat → Int32 → Nat → Nat → HS → Prop} (hX23 : ∀ (v1 : Nat) (v2 : Nat) (v3 : Nat) (v4 : Int32) (kk : Nat) (nn : Nat) (S : HS), X23 v1 v2 v3 v4 kk nn S → WS X 7 kk nn 23 [(0, .ref scb), (1, .ref v1), (2, .ref v2), (3, .ref v3), (4, .int v4)] [] S) {v1 : Nat} {v2 : Nat} {v3 : Nat} {v4 : Int32} {kk : Nat} {nn : Nat} {S : HS} (h : P_L_law_1349 scL scx Q X23 v1 v2 v3 v4 kk nn S) : WS X 7 kk nn 1349 [(0, .ref scb), (1, .ref v1), (2, .ref v2), (3, .ref v3), (4, .int v4)] [] S := by
  refine r_aload_n (pc := 1349) C dL_law_1349 1 rfl ?_
  refine r_aload_n (pc := 1350) C dL_law_1350 0 rfl ?_
  refine r_iload (pc := 1351) C dL_law_1351 4 rfl ?_
  refine r_iconst (pc := 1353) C (v := (1 : Int32)) dL_law_1353 (by decide) ?_
  refine r_iadd (pc := 1354) C dL_law_1354 ?_
  refine r_topi (fun x1 ex1 => ?_)
  have h := h x1 ex1
  obtain ⟨i2, h⟩ := h
  refine r_scLd (pc := 1355) C E i2 dL_law_1355 ?_
  refine r_topi (fun x3 ex3 => ?_)
  have h := h x3 ex3
  refine r_aload_n (pc := 1356) C dL_law_1356 0 rfl ?_
  refine r_iload (pc := 1357) C dL_law_1357 4 rfl ?_
  refine r_iconst (pc := 1359) C (v := (2 : Int32)) dL_law_1359 (by decide) ?_
  refine r_iadd (pc := 1360) C dL_law_1360 ?_
  refine r_topi (fun x4 ex4 => ?_)
  have h := h x4 ex4
  obtain ⟨i5, h⟩ := h
  refine r_scLd (pc := 1361) C E i5 dL_law_1361 ?_
  refine r_topi (fun x6 ex6 => ?_)
  have h := h x6 ex6
  refine r_aload_n (pc := 1362) C dL_law_1362 0 rfl ?_
  refine r_iload (pc := 1363) C dL_law_1363 4 rfl ?_
  refine r_iconst (pc := 1365) C (v := (3 : Int32)) dL_law_1365 (by decide) ?_
  refine r_iadd (pc := 1366) C dL_law_1366 ?_
  refine r_topi (fun x7 ex7 => ?_)
  have h := h x7 ex7
  obtain ⟨i8, h⟩ := h
  refine r_scLd (pc := 1367) C E i8 dL_law_1367 ?_
  refine r_topi (fun x9 ex9 => ?_)
  have h := h x9 ex9
  refine r_aload_n (pc := 1368) C dL_law_1368 0 rfl ?_
  refine r_iload (pc := 1369) C dL_law_1369 4 rfl ?_
  refine r_iconst (pc := 1371) C (v := (4 : Int32)) dL_law_1371 (by decide) ?_
  refine r_iadd (pc := 1372) C dL_law_1372 ?_
  refine r_topi (fun x10 ex10 => ?_)
  have h := h x10 ex10
  obtain ⟨i11, h⟩ := h
  refine r_scLd (pc := 1373) C E i11 dL_law_1373 ?_
  refine r_topi (fun x12 ex12 => ?_)
  have h := h x12 ex12
  refine r_aload_n (pc := 1374) C dL_law_1374 0 rfl ?_
  refine r_iload (pc := 1375) C dL_law_1375 4 rfl ?_
  refine r_iconst (pc := 1377) C (v := (5 : Int32)) dL_law_1377 (by decide) ?_
  refine r_iadd (pc := 1378) C dL_law_1378 ?_
  refine r_topi (fun x13 ex13 => ?_)
  have h := h x13 ex13
  obtain ⟨i14, h⟩ := h
  refine r_scLd (pc := 1379) C E i14 dL_law_1379 ?_
  refine r_topi (fun x15 ex15 => ?_)
  have h := h x15 ex15
  refine r_aload_n (pc := 1380) C dL_law_1380 0 rfl ?_
  refine r_iload (pc := 1381) C dL_law_1381 4 rfl ?_
  refine r_bipush (pc := 1383) C (v := (6 : Int32)) dL_law_1383 (by decide) ?_
  refine r_iadd (pc := 1385) C dL_law_1385 ?_
  refine r_topi (fun x16 ex16 => ?_)
  have h := h x16 ex16
  obtain ⟨i17, h⟩ := h
  refine r_scLd (pc := 1386) C E i17 dL_law_1386 ?_
  refine r_topi (fun x18 ex18 => ?_)
  have h := h x18 ex18
  obtain ⟨o_v1, h⟩ := h
  obtain ⟨hk, hk2, h⟩ := h
  refine r_callVi0 (pc := 1387) C (rest := []) (a := v1) o_v1 [.int x3, .int x6, .int x9, .int x12, .int x15, .int x18] yV_X9_first g_809 (c_X9_first h) dL_law_1387 rfl rfl (Nat.le_of_ble_eq_true rfl) ⟨by decide, by decide⟩ ⟨hk, hk2⟩ ⟨rfl, rfl⟩ (fun x21 S19 h g20 => ?_)
  have h := h g20
  have o_v1 := gr_ob g20 o_v1
  refine r_pop (pc := 1390) C dL_law_1390 rfl ?_
  refine r_aload_n (pc := 1391) C dL_law_1391 2 rfl ?_
  refine r_aload_n (pc := 1392) C dL_law_1392 0 rfl ?_
  refine r_iload (pc := 1393) C dL_law_1393 4 rfl ?_
  refine r_iconst (pc := 1395) C (v := (1 : Int32)) dL_law_1395 (by decide) ?_
  refine r_iadd (pc := 1396) C dL_law_1396 ?_
  refine r_topi (fun x22 ex22 => ?_)
  have h := h x22 ex22
  obtain ⟨i23, h⟩ := h
  refine r_scLd (pc := 1397) C E i23 dL_law_1397 ?_
  refine r_topi (fun x24 ex24 => ?_)
  have h := h x24 ex24
  refine r_aload_n (pc := 1398) C dL_law_1398 0 rfl ?_
  refine r_iload (pc := 1399) C dL_law_1399 4 rfl ?_
  refine r_iconst (pc := 1401) C (v := (2 : Int32)) dL_law_1401 (by decide) ?_
  refine r_iadd (pc := 1402) C dL_law_1402 ?_
  refine r_topi (fun x25 ex25 => ?_)
  have h := h x25 ex25
  obtain ⟨i26, h⟩ := h
  refine r_scLd (pc := 1403) C E i26 dL_law_1403 ?_
  refine r_topi (fun x27 ex27 => ?_)
  have h := h x27 ex27
  refine r_aload_n (pc := 1404) C dL_law_1404 0 rfl ?_
  refine r_iload (pc := 1405) C dL_law_1405 4 rfl ?_
  refine r_iconst (pc := 1407) C (v := (3 : Int32)) dL_law_1407 (by decide) ?_
  refine r_iadd (pc := 1408) C dL_law_1408 ?_
  refine r_topi (fun x28 ex28 => ?_)
  have h := h x28 ex28
  obtain ⟨i29, h⟩ := h
  refine r_scLd (pc := 1409) C E i29 dL_law_1409 ?_
  refine r_topi (fun x30 ex30 => ?_)
  have h := h x30 ex30
  refine r_aload_n (pc := 1410) C dL_law_1410 0 rfl ?_
  refine r_iload (pc := 1411) C dL_law_1411 4 rfl ?_
  refine r_iconst (pc := 1413) C (v := (4 : Int32)) dL_law_1413 (by decide) ?_
  refine r_iadd (pc := 1414) C dL_law_1414 ?_
  refine r_topi (fun x31 ex31 => ?_)
  have h := h x31 ex31
  obtain ⟨i32, h⟩ := h
  refine r_scLd (pc := 1415) C E i32 dL_law_1415 ?_
  refine r_topi (fun x33 ex33 => ?_)
  have h := h x33 ex33
  refine r_aload_n (pc := 1416) C dL_law_1416 0 rfl ?_
  refine r_iload (pc := 1417) C dL_law_1417 4 rfl ?_
  refine r_iconst (pc := 1419) C (v := (5 : Int32)) dL_law_1419 (by decide) ?_
  refine r_iadd (pc := 1420) C dL_law_1420 ?_
  refine r_topi (fun x34 ex34 => ?_)
  have h := h x34 ex34
  obtain ⟨i35, h⟩ := h
  refine r_scLd (pc := 1421) C E i35 dL_law_1421 ?_
  refine r_topi (fun x36 ex36 => ?_)
  have h := h x36 ex36
  refine r_aload_n (pc := 1422) C dL_law_1422 0 rfl ?_
  refine r_iload (pc := 1423) C dL_law_1423 4 rfl ?_
  refine r_bipush (pc := 1425) C (v := (6 : Int32)) dL_law_1425 (by decide) ?_
  refine r_iadd (pc := 1427) C dL_law_1427 ?_
  refine r_topi (fun x37 ex37 => ?_)
  have h := h x37 ex37
  obtain ⟨i38, h⟩ := h
  refine r_scLd (pc := 1428) C E i38 dL_law_1428 ?_
  refine r_topi (fun x39 ex39 => ?_)
  have h := h x39 ex39
  obtain ⟨o_v2, h⟩ := h
  obtain ⟨hk, hk2, h⟩ := h
  refine r_callVi0 (pc := 1429) C (rest := []) (a := v2) o_v2 [.int x24, .int x27, .int x30, .int x33, .int x36, .int x39] yV_X11_first g_1667 (c_X11_first h) dL_law_1429 rfl rfl (Nat.le_of_ble_eq_true rfl) ⟨by decide, by decide⟩ ⟨hk, hk2⟩ ⟨rfl, rfl⟩ (fun x42 S40 h g41 => ?_)
  have h := h g41
  have o_v1 := gr_ob g41 o_v1
  have o_v2 := gr_ob g41 o_v2
  refine r_pop (pc := 1432) C dL_law_1432 rfl ?_
  refine r_goto (pc := 1433) C (tgt := 2341) dL_law_1433 (by decide) ?_
  exact r_sub [0, 1, 2, 3, 4] rfl (T_L_law_2341 C E ht hn hX23 h)
def P_L_law_1532 (scL : Nat) (scx : Nat → Int32) (Q : Int32 → HS → Prop) (X23 : Nat → Nat → Nat → Int32 → Nat → Nat → HS → Prop) (v1 : Nat) (v2 : Nat) (v3 : Nat) (v4 : Int32) (s0 : Nat) (s1 : Int32) (s2 : Int32) (s3 : Int32) (s4 : Int32) (s5 : Int32) (s6 : Int32) (kk : Nat) (nn : Nat) (S : HS) : Prop := ob S s0 11 ∧ (kk ≤ rm_L_law.cells ∧ nn ≤ rm_L_law.slots ∧ (P_X11_least s0 s1 s2 s3 s4 s5 s6 (fun x3 S1 => Gr S S1 → (P_L_law_2341 scL scx Q X23 v1 v2 v3 v4 kk nn S1)) S))
set_option maxRecDepth 20000 in
set_option maxHeartbeats 4000000 in
theorem T_L_law_1532 {X : CX} {Q : Int32 → HS → Prop} {scb scL : Nat} {scx : Nat → Int32} (C : Cx X cL_law RL 7 rm_L_law) (E : LE X scb scL scx Q) (ht : LD X) (hn : True) {X23 : Nat → Nat → Nat → Int32 → Nat → Nat → HS → Prop} (hX23 : ∀ (v1 : Nat) (v2 : Nat) (v3 : Nat) (v4 : Int32) (kk : Nat) (nn : Nat) (S : HS), X23 v1 v2 v3 v4 kk nn S → WS X 7 kk nn 23 [(0, .ref scb), (1, .ref v1), (2, .ref v2), (3, .ref v3), (4, .int v4)] [] S) {v1 : Nat} {v2 : Nat} {v3 : Nat} {v4 : Int32} {s0 : Nat} {s1 : Int32} {s2 : Int32} {s3 : Int32} {s4 : Int32} {s5 : Int32} {s6 : Int32} {kk : Nat} {nn : Nat} {S : HS} (h : P_L_law_1532 scL scx Q X23 v1 v2 v3 v4 s0 s1 s2 s3 s4 s5 s6 kk nn S) : WS X 7 kk nn 1532 [(0, .ref scb), (1, .ref v1), (2, .ref v2), (3, .ref v3), (4, .int v4)] [.int s6, .int s5, .int s4, .int s3, .int s2, .int s1, .ref s0] S := by
  obtain ⟨o_s0, h⟩ := h
  obtain ⟨hk, hk2, h⟩ := h
  refine r_callVl0 (pc := 1532) C (rest := []) (a := s0) o_s0 [.int s1, .int s2, .int s3, .int s4, .int s5, .int s6] yV_X11_least g_1671 (c_X11_least h) dL_law_1532 rfl rfl (Nat.le_of_ble_eq_true rfl) ⟨by decide, by decide⟩ ⟨hk, hk2⟩ ⟨rfl, rfl⟩ (fun x3 S1 h g2 => ?_)
  have h := h g2
  have o_s0 := gr_ob g2 o_s0
  refine r_pop2 (pc := 1535) C dL_law_1535 rfl ?_
  refine r_goto (pc := 1536) C (tgt := 2341) dL_law_1536 (by decide) ?_
  exact r_sub [0, 1, 2, 3, 4] rfl (T_L_law_2341 C E ht hn hX23 h)
def P_L_law_1482 (scL : Nat) (scx : Nat → Int32) (Q : Int32 → HS → Prop) (X23 : Nat → Nat → Nat → Int32 → Nat → Nat → HS → Prop) (v1 : Nat) (v2 : Nat) (v3 : Nat) (v4 : Int32) (s0 : Nat) (s1 : Int32) (s2 : Int32) (s3 : Int32) (s4 : Int32) (s5 : Int32) (s6 : Int32) (kk : Nat) (nn : Nat) (S : HS) : Prop := ob S s0 9 ∧ (kk + 8 ≤ rm_L_law.cells ∧ nn + 7937 ≤ rm_L_law.slots ∧ (P_X9_least s0 s1 s2 s3 s4 s5 s6 (fun x3 S1 => Gr S S1 → (∀ x4 : Int32, x4 = v4 + (1 : Int32) → (vp_in x4 scL ∧ ∀ x6 : Int32, x6 = scx x4.toNatClampNeg → (∀ x7 : Int32, x7 = v4 + (2 : Int32) → (vp_in x7 scL ∧ ∀ x9 : Int32, x9 = scx x7.toNatClampNeg → (∀ x10 : Int32, x10 = v4 + (3 : Int32) → (vp_in x10 scL ∧ ∀ x12 : Int32, x12 = scx x10.toNatClampNeg → (∀ x13 : Int32, x13 = v4 + (4 : Int32) → (vp_in x13 scL ∧ ∀ x15 : Int32, x15 = scx x13.toNatClampNeg → (∀ x16 : Int32, x16 = v4 + (5 : Int32) → (vp_in x16 scL ∧ ∀ x18 : Int32, x18 = scx x16.toNatClampNeg → (∀ x19 : Int32, x19 = v4 + (6 : Int32) → (vp_in x19 scL ∧ ∀ x21 : Int32, x21 = scx x19.toNatClampNeg → (((x21 = 0) → (P_L_law_1532 scL scx Q X23 v1 v2 v3 v4 v2 x6 x9 x12 x15 x18 (0 : Int32) (kk + 8) (nn + 7937) S1)) ∧ ((¬ x21 = 0) → (P_L_law_1532 scL scx Q X23 v1 v2 v3 v4 v2 x6 x9 x12 x15 x18 (1 : Int32) (kk + 8) (nn + 7937) S1)))))))))))))))) S))
set_option maxRecDepth 20000 in
set_option maxHeartbeats 4000000 in
theorem T_L_law_1482 {X : CX} {Q : Int32 → HS → Prop} {scb scL : Nat} {scx : Nat → Int32} (C : Cx X cL_law RL 7 rm_L_law) (E : LE X scb scL scx Q) (ht : LD X) (hn : True) {X23 : Nat → Nat → Nat → Int32 → Nat → Nat → HS → Prop} (hX23 : ∀ (v1 : Nat) (v2 : Nat) (v3 : Nat) (v4 : Int32) (kk : Nat) (nn : Nat) (S : HS), X23 v1 v2 v3 v4 kk nn S → WS X 7 kk nn 23 [(0, .ref scb), (1, .ref v1), (2, .ref v2), (3, .ref v3), (4, .int v4)] [] S) {v1 : Nat} {v2 : Nat} {v3 : Nat} {v4 : Int32} {s0 : Nat} {s1 : Int32} {s2 : Int32} {s3 : Int32} {s4 : Int32} {s5 : Int32} {s6 : Int32} {kk : Nat} {nn : Nat} {S : HS} (h : P_L_law_1482 scL scx Q X23 v1 v2 v3 v4 s0 s1 s2 s3 s4 s5 s6 kk nn S) : WS X 7 kk nn 1482 [(0, .ref scb), (1, .ref v1), (2, .ref v2), (3, .ref v3), (4, .int v4)] [.int s6, .int s5, .int s4, .int s3, .int s2, .int s1, .ref s0] S := by
  obtain ⟨o_s0, h⟩ := h
  obtain ⟨hk, hk2, h⟩ := h
  refine r_callVl (pc := 1482) C (rest := []) (a := s0) o_s0 [.int s1, .int s2, .int s3, .int s4, .int s5, .int s6] yV_X9_least g_813 (c_X9_least h) dL_law_1482 rfl rfl (Nat.le_of_ble_eq_true rfl) ⟨by decide, by decide⟩ ⟨hk, hk2⟩ (fun x3 S1 h g2 => ?_)
  have h := h g2
  have o_s0 := gr_ob g2 o_s0
  refine r_pop2 (pc := 1485) C dL_law_1485 rfl ?_
  refine r_aload_n (pc := 1486) C dL_law_1486 2 rfl ?_
  refine r_aload_n (pc := 1487) C dL_law_1487 0 rfl ?_
  refine r_iload (pc := 1488) C dL_law_1488 4 rfl ?_
  refine r_iconst (pc := 1490) C (v := (1 : Int32)) dL_law_1490 (by decide) ?_
  refine r_iadd (pc := 1491) C dL_law_1491 ?_
  refine r_topi (fun x4 ex4 => ?_)
  have h := h x4 ex4
  obtain ⟨i5, h⟩ := h
  refine r_scLd (pc := 1492) C E i5 dL_law_1492 ?_
  refine r_topi (fun x6 ex6 => ?_)
  have h := h x6 ex6
  refine r_aload_n (pc := 1493) C dL_law_1493 0 rfl ?_
  refine r_iload (pc := 1494) C dL_law_1494 4 rfl ?_
  refine r_iconst (pc := 1496) C (v := (2 : Int32)) dL_law_1496 (by decide) ?_
  refine r_iadd (pc := 1497) C dL_law_1497 ?_
  refine r_topi (fun x7 ex7 => ?_)
  have h := h x7 ex7
  obtain ⟨i8, h⟩ := h
  refine r_scLd (pc := 1498) C E i8 dL_law_1498 ?_
  refine r_topi (fun x9 ex9 => ?_)
  have h := h x9 ex9
  refine r_aload_n (pc := 1499) C dL_law_1499 0 rfl ?_
  refine r_iload (pc := 1500) C dL_law_1500 4 rfl ?_
  refine r_iconst (pc := 1502) C (v := (3 : Int32)) dL_law_1502 (by decide) ?_
  refine r_iadd (pc := 1503) C dL_law_1503 ?_
  refine r_topi (fun x10 ex10 => ?_)
  have h := h x10 ex10
  obtain ⟨i11, h⟩ := h
  refine r_scLd (pc := 1504) C E i11 dL_law_1504 ?_
  refine r_topi (fun x12 ex12 => ?_)
  have h := h x12 ex12
  refine r_aload_n (pc := 1505) C dL_law_1505 0 rfl ?_
  refine r_iload (pc := 1506) C dL_law_1506 4 rfl ?_
  refine r_iconst (pc := 1508) C (v := (4 : Int32)) dL_law_1508 (by decide) ?_
  refine r_iadd (pc := 1509) C dL_law_1509 ?_
  refine r_topi (fun x13 ex13 => ?_)
  have h := h x13 ex13
  obtain ⟨i14, h⟩ := h
  refine r_scLd (pc := 1510) C E i14 dL_law_1510 ?_
  refine r_topi (fun x15 ex15 => ?_)
  have h := h x15 ex15
  refine r_aload_n (pc := 1511) C dL_law_1511 0 rfl ?_
  refine r_iload (pc := 1512) C dL_law_1512 4 rfl ?_
  refine r_iconst (pc := 1514) C (v := (5 : Int32)) dL_law_1514 (by decide) ?_
  refine r_iadd (pc := 1515) C dL_law_1515 ?_
  refine r_topi (fun x16 ex16 => ?_)
  have h := h x16 ex16
  obtain ⟨i17, h⟩ := h
  refine r_scLd (pc := 1516) C E i17 dL_law_1516 ?_
  refine r_topi (fun x18 ex18 => ?_)
  have h := h x18 ex18
  refine r_aload_n (pc := 1517) C dL_law_1517 0 rfl ?_
  refine r_iload (pc := 1518) C dL_law_1518 4 rfl ?_
  refine r_bipush (pc := 1520) C (v := (6 : Int32)) dL_law_1520 (by decide) ?_
  refine r_iadd (pc := 1522) C dL_law_1522 ?_
  refine r_topi (fun x19 ex19 => ?_)
  have h := h x19 ex19
  obtain ⟨i20, h⟩ := h
  refine r_scLd (pc := 1523) C E i20 dL_law_1523 ?_
  refine r_topi (fun x21 ex21 => ?_)
  have h := h x21 ex21
  refine r_if_eq (pc := 1524) C (tgt := 1531) dL_law_1524 (by decide) (fun c22 => ?_) (fun c22 => ?_)
  · have h := h.1 c22
    refine r_iconst (pc := 1531) C (v := (0 : Int32)) dL_law_1531 (by decide) ?_
    exact r_sub [0, 1, 2, 3, 4] rfl (T_L_law_1532 C E ht hn hX23 h)
  · have h := h.2 c22
    refine r_iconst (pc := 1527) C (v := (1 : Int32)) dL_law_1527 (by decide) ?_
    refine r_goto (pc := 1528) C (tgt := 1532) dL_law_1528 (by decide) ?_
    exact r_sub [0, 1, 2, 3, 4] rfl (T_L_law_1532 C E ht hn hX23 h)
def P_L_law_1436 (scL : Nat) (scx : Nat → Int32) (Q : Int32 → HS → Prop) (X23 : Nat → Nat → Nat → Int32 → Nat → Nat → HS → Prop) (v1 : Nat) (v2 : Nat) (v3 : Nat) (v4 : Int32) (kk : Nat) (nn : Nat) (S : HS) : Prop := ∀ x1 : Int32, x1 = v4 + (1 : Int32) → (vp_in x1 scL ∧ ∀ x3 : Int32, x3 = scx x1.toNatClampNeg → (∀ x4 : Int32, x4 = v4 + (2 : Int32) → (vp_in x4 scL ∧ ∀ x6 : Int32, x6 = scx x4.toNatClampNeg → (∀ x7 : Int32, x7 = v4 + (3 : Int32) → (vp_in x7 scL ∧ ∀ x9 : Int32, x9 = scx x7.toNatClampNeg → (∀ x10 : Int32, x10 = v4 + (4 : Int32) → (vp_in x10 scL ∧ ∀ x12 : Int32, x12 = scx x10.toNatClampNeg → (∀ x13 : Int32, x13 = v4 + (5 : Int32) → (vp_in x13 scL ∧ ∀ x15 : Int32, x15 = scx x13.toNatClampNeg → (∀ x16 : Int32, x16 = v4 + (6 : Int32) → (vp_in x16 scL ∧ ∀ x18 : Int32, x18 = scx x16.toNatClampNeg → (((x18 = 0) → (P_L_law_1482 scL scx Q X23 v1 v2 v3 v4 v1 x3 x6 x9 x12 x15 (0 : Int32) kk nn S)) ∧ ((¬ x18 = 0) → (P_L_law_1482 scL scx Q X23 v1 v2 v3 v4 v1 x3 x6 x9 x12 x15 (1 : Int32) kk nn S))))))))))))))
set_option maxRecDepth 20000 in
set_option maxHeartbeats 4000000 in
theorem T_L_law_1436 {X : CX} {Q : Int32 → HS → Prop} {scb scL : Nat} {scx : Nat → Int32} (C : Cx X cL_law RL 7 rm_L_law) (E : LE X scb scL scx Q) (ht : LD X) (hn : True) {X23 : Nat → Nat → Nat → Int32 → Nat → Nat → HS → Prop} (hX23 : ∀ (v1 : Nat) (v2 : Nat) (v3 : Nat) (v4 : Int32) (kk : Nat) (nn : Nat) (S : HS), X23 v1 v2 v3 v4 kk nn S → WS X 7 kk nn 23 [(0, .ref scb), (1, .ref v1), (2, .ref v2), (3, .ref v3), (4, .int v4)] [] S) {v1 : Nat} {v2 : Nat} {v3 : Nat} {v4 : Int32} {kk : Nat} {nn : Nat} {S : HS} (h : P_L_law_1436 scL scx Q X23 v1 v2 v3 v4 kk nn S) : WS X 7 kk nn 1436 [(0, .ref scb), (1, .ref v1), (2, .ref v2), (3, .ref v3), (4, .int v4)] [] S := by
  refine r_aload_n (pc := 1436) C dL_law_1436 1 rfl ?_
  refine r_aload_n (pc := 1437) C dL_law_1437 0 rfl ?_
  refine r_iload (pc := 1438) C dL_law_1438 4 rfl ?_
  refine r_iconst (pc := 1440) C (v := (1 : Int32)) dL_law_1440 (by decide) ?_
  refine r_iadd (pc := 1441) C dL_law_1441 ?_
  refine r_topi (fun x1 ex1 => ?_)
  have h := h x1 ex1
  obtain ⟨i2, h⟩ := h
  refine r_scLd (pc := 1442) C E i2 dL_law_1442 ?_
  refine r_topi (fun x3 ex3 => ?_)
  have h := h x3 ex3
  refine r_aload_n (pc := 1443) C dL_law_1443 0 rfl ?_
  refine r_iload (pc := 1444) C dL_law_1444 4 rfl ?_
  refine r_iconst (pc := 1446) C (v := (2 : Int32)) dL_law_1446 (by decide) ?_
  refine r_iadd (pc := 1447) C dL_law_1447 ?_
  refine r_topi (fun x4 ex4 => ?_)
  have h := h x4 ex4
  obtain ⟨i5, h⟩ := h
  refine r_scLd (pc := 1448) C E i5 dL_law_1448 ?_
  refine r_topi (fun x6 ex6 => ?_)
  have h := h x6 ex6
  refine r_aload_n (pc := 1449) C dL_law_1449 0 rfl ?_
  refine r_iload (pc := 1450) C dL_law_1450 4 rfl ?_
  refine r_iconst (pc := 1452) C (v := (3 : Int32)) dL_law_1452 (by decide) ?_
  refine r_iadd (pc := 1453) C dL_law_1453 ?_
  refine r_topi (fun x7 ex7 => ?_)
  have h := h x7 ex7
  obtain ⟨i8, h⟩ := h
  refine r_scLd (pc := 1454) C E i8 dL_law_1454 ?_
  refine r_topi (fun x9 ex9 => ?_)
  have h := h x9 ex9
  refine r_aload_n (pc := 1455) C dL_law_1455 0 rfl ?_
  refine r_iload (pc := 1456) C dL_law_1456 4 rfl ?_
  refine r_iconst (pc := 1458) C (v := (4 : Int32)) dL_law_1458 (by decide) ?_
  refine r_iadd (pc := 1459) C dL_law_1459 ?_
  refine r_topi (fun x10 ex10 => ?_)
  have h := h x10 ex10
  obtain ⟨i11, h⟩ := h
  refine r_scLd (pc := 1460) C E i11 dL_law_1460 ?_
  refine r_topi (fun x12 ex12 => ?_)
  have h := h x12 ex12
  refine r_aload_n (pc := 1461) C dL_law_1461 0 rfl ?_
  refine r_iload (pc := 1462) C dL_law_1462 4 rfl ?_
  refine r_iconst (pc := 1464) C (v := (5 : Int32)) dL_law_1464 (by decide) ?_
  refine r_iadd (pc := 1465) C dL_law_1465 ?_
  refine r_topi (fun x13 ex13 => ?_)
  have h := h x13 ex13
  obtain ⟨i14, h⟩ := h
  refine r_scLd (pc := 1466) C E i14 dL_law_1466 ?_
  refine r_topi (fun x15 ex15 => ?_)
  have h := h x15 ex15
  refine r_aload_n (pc := 1467) C dL_law_1467 0 rfl ?_
  refine r_iload (pc := 1468) C dL_law_1468 4 rfl ?_
  refine r_bipush (pc := 1470) C (v := (6 : Int32)) dL_law_1470 (by decide) ?_
  refine r_iadd (pc := 1472) C dL_law_1472 ?_
  refine r_topi (fun x16 ex16 => ?_)
  have h := h x16 ex16
  obtain ⟨i17, h⟩ := h
  refine r_scLd (pc := 1473) C E i17 dL_law_1473 ?_
  refine r_topi (fun x18 ex18 => ?_)
  have h := h x18 ex18
  refine r_if_eq (pc := 1474) C (tgt := 1481) dL_law_1474 (by decide) (fun c19 => ?_) (fun c19 => ?_)
  · have h := h.1 c19
    refine r_iconst (pc := 1481) C (v := (0 : Int32)) dL_law_1481 (by decide) ?_
    exact r_sub [0, 1, 2, 3, 4] rfl (T_L_law_1482 C E ht hn hX23 h)
  · have h := h.2 c19
    refine r_iconst (pc := 1477) C (v := (1 : Int32)) dL_law_1477 (by decide) ?_
    refine r_goto (pc := 1478) C (tgt := 1482) dL_law_1478 (by decide) ?_
    exact r_sub [0, 1, 2, 3, 4] rfl (T_L_law_1482 C E ht hn hX23 h)
def P_L_law_1539 (scL : Nat) (scx : Nat → Int32) (Q : Int32 → HS → Prop) (X23 : Nat → Nat → Nat → Int32 → Nat → Nat → HS → Prop) (v1 : Nat) (v2 : Nat) (v3 : Nat) (v4 : Int32) (kk : Nat) (nn : Nat) (S : HS) : Prop := ∀ x1 : Int32, x1 = v4 + (1 : Int32) → (vp_in x1 scL ∧ ∀ x3 : Int32, x3 = scx x1.toNatClampNeg → (∀ x4 : Int32, x4 = v4 + (2 : Int32) → (vp_in x4 scL ∧ ∀ x6 : Int32, x6 = scx x4.toNatClampNeg → (∀ x7 : Int32, x7 = v4 + (3 : Int32) → (vp_in x7 scL ∧ ∀ x9 : Int32, x9 = scx x7.toNatClampNeg → (∀ x10 : Int32, x10 = v4 + (4 : Int32) → (vp_in x10 scL ∧ ∀ x12 : Int32, x12 = scx x10.toNatClampNeg → (∀ x13 : Int32, x13 = v4 + (5 : Int32) → (vp_in x13 scL ∧ ∀ x15 : Int32, x15 = scx x13.toNatClampNeg → (ob S v1 9 ∧ (kk + 8 ≤ rm_L_law.cells ∧ nn + 7937 ≤ rm_L_law.slots ∧ (P_X9_there v1 x3 x6 x9 x12 x15 (fun x18 S16 => Gr S S16 → (∀ x19 : Int32, x19 = v4 + (1 : Int32) → (vp_in x19 scL ∧ ∀ x21 : Int32, x21 = scx x19.toNatClampNeg → (∀ x22 : Int32, x22 = v4 + (2 : Int32) → (vp_in x22 scL ∧ ∀ x24 : Int32, x24 = scx x22.toNatClampNeg → (∀ x25 : Int32, x25 = v4 + (3 : Int32) → (vp_in x25 scL ∧ ∀ x27 : Int32, x27 = scx x25.toNatClampNeg → (∀ x28 : Int32, x28 = v4 + (4 : Int32) → (vp_in x28 scL ∧ ∀ x30 : Int32, x30 = scx x28.toNatClampNeg → (∀ x31 : Int32, x31 = v4 + (5 : Int32) → (vp_in x31 scL ∧ ∀ x33 : Int32, x33 = scx x31.toNatClampNeg → (ob S16 v2 11 ∧ (kk + 8 ≤ rm_L_law.cells ∧ nn + 7937 ≤ rm_L_law.slots ∧ (P_X11_there v2 x21 x24 x27 x30 x33 (fun x36 S34 => Gr S16 S34 → (P_L_law_2341 scL scx Q X23 v1 v2 v3 v4 (kk + 8) (nn + 7937) S34)) S16)))))))))))))) S))))))))))))
set_option maxRecDepth 20000 in
set_option maxHeartbeats 4000000 in
theorem T_L_law_1539 {X : CX} {Q : Int32 → HS → Prop} {scb scL : Nat} {scx : Nat → Int32} (C : Cx X cL_law RL 7 rm_L_law) (E : LE X scb scL scx Q) (ht : LD X) (hn : True) {X23 : Nat → Nat → Nat → Int32 → Nat → Nat → HS → Prop} (hX23 : ∀ (v1 : Nat) (v2 : Nat) (v3 : Nat) (v4 : Int32) (kk : Nat) (nn : Nat) (S : HS), X23 v1 v2 v3 v4 kk nn S → WS X 7 kk nn 23 [(0, .ref scb), (1, .ref v1), (2, .ref v2), (3, .ref v3), (4, .int v4)] [] S) {v1 : Nat} {v2 : Nat} {v3 : Nat} {v4 : Int32} {kk : Nat} {nn : Nat} {S : HS} (h : P_L_law_1539 scL scx Q X23 v1 v2 v3 v4 kk nn S) : WS X 7 kk nn 1539 [(0, .ref scb), (1, .ref v1), (2, .ref v2), (3, .ref v3), (4, .int v4)] [] S := by
  refine r_aload_n (pc := 1539) C dL_law_1539 1 rfl ?_
  refine r_aload_n (pc := 1540) C dL_law_1540 0 rfl ?_
  refine r_iload (pc := 1541) C dL_law_1541 4 rfl ?_
  refine r_iconst (pc := 1543) C (v := (1 : Int32)) dL_law_1543 (by decide) ?_
  refine r_iadd (pc := 1544) C dL_law_1544 ?_
  refine r_topi (fun x1 ex1 => ?_)
  have h := h x1 ex1
  obtain ⟨i2, h⟩ := h
  refine r_scLd (pc := 1545) C E i2 dL_law_1545 ?_
  refine r_topi (fun x3 ex3 => ?_)
  have h := h x3 ex3
  refine r_aload_n (pc := 1546) C dL_law_1546 0 rfl ?_
  refine r_iload (pc := 1547) C dL_law_1547 4 rfl ?_
  refine r_iconst (pc := 1549) C (v := (2 : Int32)) dL_law_1549 (by decide) ?_
  refine r_iadd (pc := 1550) C dL_law_1550 ?_
  refine r_topi (fun x4 ex4 => ?_)
  have h := h x4 ex4
  obtain ⟨i5, h⟩ := h
  refine r_scLd (pc := 1551) C E i5 dL_law_1551 ?_
  refine r_topi (fun x6 ex6 => ?_)
  have h := h x6 ex6
  refine r_aload_n (pc := 1552) C dL_law_1552 0 rfl ?_
  refine r_iload (pc := 1553) C dL_law_1553 4 rfl ?_
  refine r_iconst (pc := 1555) C (v := (3 : Int32)) dL_law_1555 (by decide) ?_
  refine r_iadd (pc := 1556) C dL_law_1556 ?_
  refine r_topi (fun x7 ex7 => ?_)
  have h := h x7 ex7
  obtain ⟨i8, h⟩ := h
  refine r_scLd (pc := 1557) C E i8 dL_law_1557 ?_
  refine r_topi (fun x9 ex9 => ?_)
  have h := h x9 ex9
  refine r_aload_n (pc := 1558) C dL_law_1558 0 rfl ?_
  refine r_iload (pc := 1559) C dL_law_1559 4 rfl ?_
  refine r_iconst (pc := 1561) C (v := (4 : Int32)) dL_law_1561 (by decide) ?_
  refine r_iadd (pc := 1562) C dL_law_1562 ?_
  refine r_topi (fun x10 ex10 => ?_)
  have h := h x10 ex10
  obtain ⟨i11, h⟩ := h
  refine r_scLd (pc := 1563) C E i11 dL_law_1563 ?_
  refine r_topi (fun x12 ex12 => ?_)
  have h := h x12 ex12
  refine r_aload_n (pc := 1564) C dL_law_1564 0 rfl ?_
  refine r_iload (pc := 1565) C dL_law_1565 4 rfl ?_
  refine r_iconst (pc := 1567) C (v := (5 : Int32)) dL_law_1567 (by decide) ?_
  refine r_iadd (pc := 1568) C dL_law_1568 ?_
  refine r_topi (fun x13 ex13 => ?_)
  have h := h x13 ex13
  obtain ⟨i14, h⟩ := h
  refine r_scLd (pc := 1569) C E i14 dL_law_1569 ?_
  refine r_topi (fun x15 ex15 => ?_)
  have h := h x15 ex15
  obtain ⟨o_v1, h⟩ := h
  obtain ⟨hk, hk2, h⟩ := h
  refine r_callVi (pc := 1570) C (rest := []) (a := v1) o_v1 [.int x3, .int x6, .int x9, .int x12, .int x15] yV_X9_there g_900 (c_X9_there h) dL_law_1570 rfl rfl (Nat.le_of_ble_eq_true rfl) ⟨by decide, by decide⟩ ⟨hk, hk2⟩ (fun x18 S16 h g17 => ?_)
  have h := h g17
  have o_v1 := gr_ob g17 o_v1
  refine r_pop (pc := 1573) C dL_law_1573 rfl ?_
  refine r_aload_n (pc := 1574) C dL_law_1574 2 rfl ?_
  refine r_aload_n (pc := 1575) C dL_law_1575 0 rfl ?_
  refine r_iload (pc := 1576) C dL_law_1576 4 rfl ?_
  refine r_iconst (pc := 1578) C (v := (1 : Int32)) dL_law_1578 (by decide) ?_
  refine r_iadd (pc := 1579) C dL_law_1579 ?_
  refine r_topi (fun x19 ex19 => ?_)
  have h := h x19 ex19
  obtain ⟨i20, h⟩ := h
  refine r_scLd (pc := 1580) C E i20 dL_law_1580 ?_
  refine r_topi (fun x21 ex21 => ?_)
  have h := h x21 ex21
  refine r_aload_n (pc := 1581) C dL_law_1581 0 rfl ?_
  refine r_iload (pc := 1582) C dL_law_1582 4 rfl ?_
  refine r_iconst (pc := 1584) C (v := (2 : Int32)) dL_law_1584 (by decide) ?_
  refine r_iadd (pc := 1585) C dL_law_1585 ?_
  refine r_topi (fun x22 ex22 => ?_)
  have h := h x22 ex22
  obtain ⟨i23, h⟩ := h
  refine r_scLd (pc := 1586) C E i23 dL_law_1586 ?_
  refine r_topi (fun x24 ex24 => ?_)
  have h := h x24 ex24
  refine r_aload_n (pc := 1587) C dL_law_1587 0 rfl ?_
  refine r_iload (pc := 1588) C dL_law_1588 4 rfl ?_
  refine r_iconst (pc := 1590) C (v := (3 : Int32)) dL_law_1590 (by decide) ?_
  refine r_iadd (pc := 1591) C dL_law_1591 ?_
  refine r_topi (fun x25 ex25 => ?_)
  have h := h x25 ex25
  obtain ⟨i26, h⟩ := h
  refine r_scLd (pc := 1592) C E i26 dL_law_1592 ?_
  refine r_topi (fun x27 ex27 => ?_)
  have h := h x27 ex27
  refine r_aload_n (pc := 1593) C dL_law_1593 0 rfl ?_
  refine r_iload (pc := 1594) C dL_law_1594 4 rfl ?_
  refine r_iconst (pc := 1596) C (v := (4 : Int32)) dL_law_1596 (by decide) ?_
  refine r_iadd (pc := 1597) C dL_law_1597 ?_
  refine r_topi (fun x28 ex28 => ?_)
  have h := h x28 ex28
  obtain ⟨i29, h⟩ := h
  refine r_scLd (pc := 1598) C E i29 dL_law_1598 ?_
  refine r_topi (fun x30 ex30 => ?_)
  have h := h x30 ex30
  refine r_aload_n (pc := 1599) C dL_law_1599 0 rfl ?_
  refine r_iload (pc := 1600) C dL_law_1600 4 rfl ?_
  refine r_iconst (pc := 1602) C (v := (5 : Int32)) dL_law_1602 (by decide) ?_
  refine r_iadd (pc := 1603) C dL_law_1603 ?_
  refine r_topi (fun x31 ex31 => ?_)
  have h := h x31 ex31
  obtain ⟨i32, h⟩ := h
  refine r_scLd (pc := 1604) C E i32 dL_law_1604 ?_
  refine r_topi (fun x33 ex33 => ?_)
  have h := h x33 ex33
  obtain ⟨o_v2, h⟩ := h
  obtain ⟨hk, hk2, h⟩ := h
  refine r_callVi0 (pc := 1605) C (rest := []) (a := v2) o_v2 [.int x21, .int x24, .int x27, .int x30, .int x33] yV_X11_there g_1727 (c_X11_there h) dL_law_1605 rfl rfl (Nat.le_of_ble_eq_true rfl) ⟨by decide, by decide⟩ ⟨hk, hk2⟩ ⟨rfl, rfl⟩ (fun x36 S34 h g35 => ?_)
  have h := h g35
  have o_v1 := gr_ob g35 o_v1
  have o_v2 := gr_ob g35 o_v2
  refine r_pop (pc := 1608) C dL_law_1608 rfl ?_
  refine r_goto (pc := 1609) C (tgt := 2341) dL_law_1609 (by decide) ?_
  exact r_sub [0, 1, 2, 3, 4] rfl (T_L_law_2341 C E ht hn hX23 h)
def P_L_law_1612 (scL : Nat) (scx : Nat → Int32) (Q : Int32 → HS → Prop) (X23 : Nat → Nat → Nat → Int32 → Nat → Nat → HS → Prop) (v1 : Nat) (v2 : Nat) (v3 : Nat) (v4 : Int32) (kk : Nat) (nn : Nat) (S : HS) : Prop := ∀ x1 : Int32, x1 = v4 + (1 : Int32) → (vp_in x1 scL ∧ ∀ x3 : Int32, x3 = scx x1.toNatClampNeg → (∀ x4 : Int32, x4 = v4 + (2 : Int32) → (vp_in x4 scL ∧ ∀ x6 : Int32, x6 = scx x4.toNatClampNeg → (∀ x7 : Int32, x7 = v4 + (3 : Int32) → (vp_in x7 scL ∧ ∀ x9 : Int32, x9 = scx x7.toNatClampNeg → (∀ x10 : Int32, x10 = v4 + (4 : Int32) → (vp_in x10 scL ∧ ∀ x12 : Int32, x12 = scx x10.toNatClampNeg → (∀ x13 : Int32, x13 = v4 + (5 : Int32) → (vp_in x13 scL ∧ ∀ x15 : Int32, x15 = scx x13.toNatClampNeg → (ob S v1 9 ∧ (kk + 8 ≤ rm_L_law.cells ∧ nn + 7937 ≤ rm_L_law.slots ∧ (P_X9_steps v1 x3 x6 x9 x12 x15 (fun x18 S16 => Gr S S16 → (∀ x19 : Int32, x19 = v4 + (1 : Int32) → (vp_in x19 scL ∧ ∀ x21 : Int32, x21 = scx x19.toNatClampNeg → (∀ x22 : Int32, x22 = v4 + (2 : Int32) → (vp_in x22 scL ∧ ∀ x24 : Int32, x24 = scx x22.toNatClampNeg → (∀ x25 : Int32, x25 = v4 + (3 : Int32) → (vp_in x25 scL ∧ ∀ x27 : Int32, x27 = scx x25.toNatClampNeg → (∀ x28 : Int32, x28 = v4 + (4 : Int32) → (vp_in x28 scL ∧ ∀ x30 : Int32, x30 = scx x28.toNatClampNeg → (∀ x31 : Int32, x31 = v4 + (5 : Int32) → (vp_in x31 scL ∧ ∀ x33 : Int32, x33 = scx x31.toNatClampNeg → (ob S16 v2 11 ∧ (kk + 8 ≤ rm_L_law.cells ∧ nn + 7937 ≤ rm_L_law.slots ∧ (P_X11_steps v2 x21 x24 x27 x30 x33 (fun x36 S34 => Gr S16 S34 → (P_L_law_2341 scL scx Q X23 v1 v2 v3 v4 (kk + 8) (nn + 7937) S34)) S16)))))))))))))) S))))))))))))
set_option maxRecDepth 20000 in
set_option maxHeartbeats 4000000 in
theorem T_L_law_1612 {X : CX} {Q : Int32 → HS → Prop} {scb scL : Nat} {scx : Nat → Int32} (C : Cx X cL_law RL 7 rm_L_law) (E : LE X scb scL scx Q) (ht : LD X) (hn : True) {X23 : Nat → Nat → Nat → Int32 → Nat → Nat → HS → Prop} (hX23 : ∀ (v1 : Nat) (v2 : Nat) (v3 : Nat) (v4 : Int32) (kk : Nat) (nn : Nat) (S : HS), X23 v1 v2 v3 v4 kk nn S → WS X 7 kk nn 23 [(0, .ref scb), (1, .ref v1), (2, .ref v2), (3, .ref v3), (4, .int v4)] [] S) {v1 : Nat} {v2 : Nat} {v3 : Nat} {v4 : Int32} {kk : Nat} {nn : Nat} {S : HS} (h : P_L_law_1612 scL scx Q X23 v1 v2 v3 v4 kk nn S) : WS X 7 kk nn 1612 [(0, .ref scb), (1, .ref v1), (2, .ref v2), (3, .ref v3), (4, .int v4)] [] S := by
  refine r_aload_n (pc := 1612) C dL_law_1612 1 rfl ?_
  refine r_aload_n (pc := 1613) C dL_law_1613 0 rfl ?_
  refine r_iload (pc := 1614) C dL_law_1614 4 rfl ?_
  refine r_iconst (pc := 1616) C (v := (1 : Int32)) dL_law_1616 (by decide) ?_
  refine r_iadd (pc := 1617) C dL_law_1617 ?_
  refine r_topi (fun x1 ex1 => ?_)
  have h := h x1 ex1
  obtain ⟨i2, h⟩ := h
  refine r_scLd (pc := 1618) C E i2 dL_law_1618 ?_
  refine r_topi (fun x3 ex3 => ?_)
  have h := h x3 ex3
  refine r_aload_n (pc := 1619) C dL_law_1619 0 rfl ?_
  refine r_iload (pc := 1620) C dL_law_1620 4 rfl ?_
  refine r_iconst (pc := 1622) C (v := (2 : Int32)) dL_law_1622 (by decide) ?_
  refine r_iadd (pc := 1623) C dL_law_1623 ?_
  refine r_topi (fun x4 ex4 => ?_)
  have h := h x4 ex4
  obtain ⟨i5, h⟩ := h
  refine r_scLd (pc := 1624) C E i5 dL_law_1624 ?_
  refine r_topi (fun x6 ex6 => ?_)
  have h := h x6 ex6
  refine r_aload_n (pc := 1625) C dL_law_1625 0 rfl ?_
  refine r_iload (pc := 1626) C dL_law_1626 4 rfl ?_
  refine r_iconst (pc := 1628) C (v := (3 : Int32)) dL_law_1628 (by decide) ?_
  refine r_iadd (pc := 1629) C dL_law_1629 ?_
  refine r_topi (fun x7 ex7 => ?_)
  have h := h x7 ex7
  obtain ⟨i8, h⟩ := h
  refine r_scLd (pc := 1630) C E i8 dL_law_1630 ?_
  refine r_topi (fun x9 ex9 => ?_)
  have h := h x9 ex9
  refine r_aload_n (pc := 1631) C dL_law_1631 0 rfl ?_
  refine r_iload (pc := 1632) C dL_law_1632 4 rfl ?_
  refine r_iconst (pc := 1634) C (v := (4 : Int32)) dL_law_1634 (by decide) ?_
  refine r_iadd (pc := 1635) C dL_law_1635 ?_
  refine r_topi (fun x10 ex10 => ?_)
  have h := h x10 ex10
  obtain ⟨i11, h⟩ := h
  refine r_scLd (pc := 1636) C E i11 dL_law_1636 ?_
  refine r_topi (fun x12 ex12 => ?_)
  have h := h x12 ex12
  refine r_aload_n (pc := 1637) C dL_law_1637 0 rfl ?_
  refine r_iload (pc := 1638) C dL_law_1638 4 rfl ?_
  refine r_iconst (pc := 1640) C (v := (5 : Int32)) dL_law_1640 (by decide) ?_
  refine r_iadd (pc := 1641) C dL_law_1641 ?_
  refine r_topi (fun x13 ex13 => ?_)
  have h := h x13 ex13
  obtain ⟨i14, h⟩ := h
  refine r_scLd (pc := 1642) C E i14 dL_law_1642 ?_
  refine r_topi (fun x15 ex15 => ?_)
  have h := h x15 ex15
  obtain ⟨o_v1, h⟩ := h
  obtain ⟨hk, hk2, h⟩ := h
  refine r_callVi (pc := 1643) C (rest := []) (a := v1) o_v1 [.int x3, .int x6, .int x9, .int x12, .int x15] yV_X9_steps g_908 (c_X9_steps h) dL_law_1643 rfl rfl (Nat.le_of_ble_eq_true rfl) ⟨by decide, by decide⟩ ⟨hk, hk2⟩ (fun x18 S16 h g17 => ?_)
  have h := h g17
  have o_v1 := gr_ob g17 o_v1
  refine r_pop (pc := 1646) C dL_law_1646 rfl ?_
  refine r_aload_n (pc := 1647) C dL_law_1647 2 rfl ?_
  refine r_aload_n (pc := 1648) C dL_law_1648 0 rfl ?_
  refine r_iload (pc := 1649) C dL_law_1649 4 rfl ?_
  refine r_iconst (pc := 1651) C (v := (1 : Int32)) dL_law_1651 (by decide) ?_
  refine r_iadd (pc := 1652) C dL_law_1652 ?_
  refine r_topi (fun x19 ex19 => ?_)
  have h := h x19 ex19
  obtain ⟨i20, h⟩ := h
  refine r_scLd (pc := 1653) C E i20 dL_law_1653 ?_
  refine r_topi (fun x21 ex21 => ?_)
  have h := h x21 ex21
  refine r_aload_n (pc := 1654) C dL_law_1654 0 rfl ?_
  refine r_iload (pc := 1655) C dL_law_1655 4 rfl ?_
  refine r_iconst (pc := 1657) C (v := (2 : Int32)) dL_law_1657 (by decide) ?_
  refine r_iadd (pc := 1658) C dL_law_1658 ?_
  refine r_topi (fun x22 ex22 => ?_)
  have h := h x22 ex22
  obtain ⟨i23, h⟩ := h
  refine r_scLd (pc := 1659) C E i23 dL_law_1659 ?_
  refine r_topi (fun x24 ex24 => ?_)
  have h := h x24 ex24
  refine r_aload_n (pc := 1660) C dL_law_1660 0 rfl ?_
  refine r_iload (pc := 1661) C dL_law_1661 4 rfl ?_
  refine r_iconst (pc := 1663) C (v := (3 : Int32)) dL_law_1663 (by decide) ?_
  refine r_iadd (pc := 1664) C dL_law_1664 ?_
  refine r_topi (fun x25 ex25 => ?_)
  have h := h x25 ex25
  obtain ⟨i26, h⟩ := h
  refine r_scLd (pc := 1665) C E i26 dL_law_1665 ?_
  refine r_topi (fun x27 ex27 => ?_)
  have h := h x27 ex27
  refine r_aload_n (pc := 1666) C dL_law_1666 0 rfl ?_
  refine r_iload (pc := 1667) C dL_law_1667 4 rfl ?_
  refine r_iconst (pc := 1669) C (v := (4 : Int32)) dL_law_1669 (by decide) ?_
  refine r_iadd (pc := 1670) C dL_law_1670 ?_
  refine r_topi (fun x28 ex28 => ?_)
  have h := h x28 ex28
  obtain ⟨i29, h⟩ := h
  refine r_scLd (pc := 1671) C E i29 dL_law_1671 ?_
  refine r_topi (fun x30 ex30 => ?_)
  have h := h x30 ex30
  refine r_aload_n (pc := 1672) C dL_law_1672 0 rfl ?_
  refine r_iload (pc := 1673) C dL_law_1673 4 rfl ?_
  refine r_iconst (pc := 1675) C (v := (5 : Int32)) dL_law_1675 (by decide) ?_
  refine r_iadd (pc := 1676) C dL_law_1676 ?_
  refine r_topi (fun x31 ex31 => ?_)
  have h := h x31 ex31
  obtain ⟨i32, h⟩ := h
  refine r_scLd (pc := 1677) C E i32 dL_law_1677 ?_
  refine r_topi (fun x33 ex33 => ?_)
  have h := h x33 ex33
  obtain ⟨o_v2, h⟩ := h
  obtain ⟨hk, hk2, h⟩ := h
  refine r_callVi0 (pc := 1678) C (rest := []) (a := v2) o_v2 [.int x21, .int x24, .int x27, .int x30, .int x33] yV_X11_steps g_1731 (c_X11_steps h) dL_law_1678 rfl rfl (Nat.le_of_ble_eq_true rfl) ⟨by decide, by decide⟩ ⟨hk, hk2⟩ ⟨rfl, rfl⟩ (fun x36 S34 h g35 => ?_)
  have h := h g35
  have o_v1 := gr_ob g35 o_v1
  have o_v2 := gr_ob g35 o_v2
  refine r_pop (pc := 1681) C dL_law_1681 rfl ?_
  refine r_goto (pc := 1682) C (tgt := 2341) dL_law_1682 (by decide) ?_
  exact r_sub [0, 1, 2, 3, 4] rfl (T_L_law_2341 C E ht hn hX23 h)
def P_L_law_1685 (scL : Nat) (scx : Nat → Int32) (Q : Int32 → HS → Prop) (X23 : Nat → Nat → Nat → Int32 → Nat → Nat → HS → Prop) (v1 : Nat) (v2 : Nat) (v3 : Nat) (v4 : Int32) (kk : Nat) (nn : Nat) (S : HS) : Prop := ∀ x1 : Int32, x1 = v4 + (1 : Int32) → (vp_in x1 scL ∧ ∀ x3 : Int32, x3 = scx x1.toNatClampNeg → (∀ x4 : Int32, x4 = v4 + (2 : Int32) → (vp_in x4 scL ∧ ∀ x6 : Int32, x6 = scx x4.toNatClampNeg → (∀ x7 : Int32, x7 = v4 + (3 : Int32) → (vp_in x7 scL ∧ ∀ x9 : Int32, x9 = scx x7.toNatClampNeg → (∀ x10 : Int32, x10 = v4 + (4 : Int32) → (vp_in x10 scL ∧ ∀ x12 : Int32, x12 = scx x10.toNatClampNeg → (∀ x13 : Int32, x13 = v4 + (5 : Int32) → (vp_in x13 scL ∧ ∀ x15 : Int32, x15 = scx x13.toNatClampNeg → (∀ x16 : Int32, x16 = v4 + (6 : Int32) → (vp_in x16 scL ∧ ∀ x18 : Int32, x18 = scx x16.toNatClampNeg → (ob S v1 9 ∧ (kk + 8 ≤ rm_L_law.cells ∧ nn + 7937 ≤ rm_L_law.slots ∧ (P_X9_step v1 x3 x6 x9 x12 x15 x18 (fun x21 S19 => Gr S S19 → (∀ x22 : Int32, x22 = v4 + (1 : Int32) → (vp_in x22 scL ∧ ∀ x24 : Int32, x24 = scx x22.toNatClampNeg → (∀ x25 : Int32, x25 = v4 + (2 : Int32) → (vp_in x25 scL ∧ ∀ x27 : Int32, x27 = scx x25.toNatClampNeg → (∀ x28 : Int32, x28 = v4 + (3 : Int32) → (vp_in x28 scL ∧ ∀ x30 : Int32, x30 = scx x28.toNatClampNeg → (∀ x31 : Int32, x31 = v4 + (4 : Int32) → (vp_in x31 scL ∧ ∀ x33 : Int32, x33 = scx x31.toNatClampNeg → (∀ x34 : Int32, x34 = v4 + (5 : Int32) → (vp_in x34 scL ∧ ∀ x36 : Int32, x36 = scx x34.toNatClampNeg → (∀ x37 : Int32, x37 = v4 + (6 : Int32) → (vp_in x37 scL ∧ ∀ x39 : Int32, x39 = scx x37.toNatClampNeg → (ob S19 v2 11 ∧ (kk + 8 ≤ rm_L_law.cells ∧ nn + 7937 ≤ rm_L_law.slots ∧ (P_X11_step v2 x24 x27 x30 x33 x36 x39 (fun x42 S40 => Gr S19 S40 → (P_L_law_2341 scL scx Q X23 v1 v2 v3 v4 (kk + 8) (nn + 7937) S40)) S19)))))))))))))))) S))))))))))))))
set_option maxRecDepth 20000 in
set_option maxHeartbeats 4000000 in
theorem T_L_law_1685 {X : CX} {Q : Int32 → HS → Prop} {scb scL : Nat} {scx : Nat → Int32} (C : Cx X cL_law RL 7 rm_L_law) (E : LE X scb scL scx Q) (ht : LD X) (hn : True) {X23 : Nat → Nat → Nat → Int32 → Nat → Nat → HS → Prop} (hX23 : ∀ (v1 : Nat) (v2 : Nat) (v3 : Nat) (v4 : Int32) (kk : Nat) (nn : Nat) (S : HS), X23 v1 v2 v3 v4 kk nn S → WS X 7 kk nn 23 [(0, .ref scb), (1, .ref v1), (2, .ref v2), (3, .ref v3), (4, .int v4)] [] S) {v1 : Nat} {v2 : Nat} {v3 : Nat} {v4 : Int32} {kk : Nat} {nn : Nat} {S : HS} (h : P_L_law_1685 scL scx Q X23 v1 v2 v3 v4 kk nn S) : WS X 7 kk nn 1685 [(0, .ref scb), (1, .ref v1), (2, .ref v2), (3, .ref v3), (4, .int v4)] [] S := by
  refine r_aload_n (pc := 1685) C dL_law_1685 1 rfl ?_
  refine r_aload_n (pc := 1686) C dL_law_1686 0 rfl ?_
  refine r_iload (pc := 1687) C dL_law_1687 4 rfl ?_
  refine r_iconst (pc := 1689) C (v := (1 : Int32)) dL_law_1689 (by decide) ?_
  refine r_iadd (pc := 1690) C dL_law_1690 ?_
  refine r_topi (fun x1 ex1 => ?_)
  have h := h x1 ex1
  obtain ⟨i2, h⟩ := h
  refine r_scLd (pc := 1691) C E i2 dL_law_1691 ?_
  refine r_topi (fun x3 ex3 => ?_)
  have h := h x3 ex3
  refine r_aload_n (pc := 1692) C dL_law_1692 0 rfl ?_
  refine r_iload (pc := 1693) C dL_law_1693 4 rfl ?_
  refine r_iconst (pc := 1695) C (v := (2 : Int32)) dL_law_1695 (by decide) ?_
  refine r_iadd (pc := 1696) C dL_law_1696 ?_
  refine r_topi (fun x4 ex4 => ?_)
  have h := h x4 ex4
  obtain ⟨i5, h⟩ := h
  refine r_scLd (pc := 1697) C E i5 dL_law_1697 ?_
  refine r_topi (fun x6 ex6 => ?_)
  have h := h x6 ex6
  refine r_aload_n (pc := 1698) C dL_law_1698 0 rfl ?_
  refine r_iload (pc := 1699) C dL_law_1699 4 rfl ?_
  refine r_iconst (pc := 1701) C (v := (3 : Int32)) dL_law_1701 (by decide) ?_
  refine r_iadd (pc := 1702) C dL_law_1702 ?_
  refine r_topi (fun x7 ex7 => ?_)
  have h := h x7 ex7
  obtain ⟨i8, h⟩ := h
  refine r_scLd (pc := 1703) C E i8 dL_law_1703 ?_
  refine r_topi (fun x9 ex9 => ?_)
  have h := h x9 ex9
  refine r_aload_n (pc := 1704) C dL_law_1704 0 rfl ?_
  refine r_iload (pc := 1705) C dL_law_1705 4 rfl ?_
  refine r_iconst (pc := 1707) C (v := (4 : Int32)) dL_law_1707 (by decide) ?_
  refine r_iadd (pc := 1708) C dL_law_1708 ?_
  refine r_topi (fun x10 ex10 => ?_)
  have h := h x10 ex10
  obtain ⟨i11, h⟩ := h
  refine r_scLd (pc := 1709) C E i11 dL_law_1709 ?_
  refine r_topi (fun x12 ex12 => ?_)
  have h := h x12 ex12
  refine r_aload_n (pc := 1710) C dL_law_1710 0 rfl ?_
  refine r_iload (pc := 1711) C dL_law_1711 4 rfl ?_
  refine r_iconst (pc := 1713) C (v := (5 : Int32)) dL_law_1713 (by decide) ?_
  refine r_iadd (pc := 1714) C dL_law_1714 ?_
  refine r_topi (fun x13 ex13 => ?_)
  have h := h x13 ex13
  obtain ⟨i14, h⟩ := h
  refine r_scLd (pc := 1715) C E i14 dL_law_1715 ?_
  refine r_topi (fun x15 ex15 => ?_)
  have h := h x15 ex15
  refine r_aload_n (pc := 1716) C dL_law_1716 0 rfl ?_
  refine r_iload (pc := 1717) C dL_law_1717 4 rfl ?_
  refine r_bipush (pc := 1719) C (v := (6 : Int32)) dL_law_1719 (by decide) ?_
  refine r_iadd (pc := 1721) C dL_law_1721 ?_
  refine r_topi (fun x16 ex16 => ?_)
  have h := h x16 ex16
  obtain ⟨i17, h⟩ := h
  refine r_scLd (pc := 1722) C E i17 dL_law_1722 ?_
  refine r_topi (fun x18 ex18 => ?_)
  have h := h x18 ex18
  obtain ⟨o_v1, h⟩ := h
  obtain ⟨hk, hk2, h⟩ := h
  refine r_callVi (pc := 1723) C (rest := []) (a := v1) o_v1 [.int x3, .int x6, .int x9, .int x12, .int x15, .int x18] yV_X9_step g_917 (c_X9_step h) dL_law_1723 rfl rfl (Nat.le_of_ble_eq_true rfl) ⟨by decide, by decide⟩ ⟨hk, hk2⟩ (fun x21 S19 h g20 => ?_)
  have h := h g20
  have o_v1 := gr_ob g20 o_v1
  refine r_pop (pc := 1726) C dL_law_1726 rfl ?_
  refine r_aload_n (pc := 1727) C dL_law_1727 2 rfl ?_
  refine r_aload_n (pc := 1728) C dL_law_1728 0 rfl ?_
  refine r_iload (pc := 1729) C dL_law_1729 4 rfl ?_
  refine r_iconst (pc := 1731) C (v := (1 : Int32)) dL_law_1731 (by decide) ?_
  refine r_iadd (pc := 1732) C dL_law_1732 ?_
  refine r_topi (fun x22 ex22 => ?_)
  have h := h x22 ex22
  obtain ⟨i23, h⟩ := h
  refine r_scLd (pc := 1733) C E i23 dL_law_1733 ?_
  refine r_topi (fun x24 ex24 => ?_)
  have h := h x24 ex24
  refine r_aload_n (pc := 1734) C dL_law_1734 0 rfl ?_
  refine r_iload (pc := 1735) C dL_law_1735 4 rfl ?_
  refine r_iconst (pc := 1737) C (v := (2 : Int32)) dL_law_1737 (by decide) ?_
  refine r_iadd (pc := 1738) C dL_law_1738 ?_
  refine r_topi (fun x25 ex25 => ?_)
  have h := h x25 ex25
  obtain ⟨i26, h⟩ := h
  refine r_scLd (pc := 1739) C E i26 dL_law_1739 ?_
  refine r_topi (fun x27 ex27 => ?_)
  have h := h x27 ex27
  refine r_aload_n (pc := 1740) C dL_law_1740 0 rfl ?_
  refine r_iload (pc := 1741) C dL_law_1741 4 rfl ?_
  refine r_iconst (pc := 1743) C (v := (3 : Int32)) dL_law_1743 (by decide) ?_
  refine r_iadd (pc := 1744) C dL_law_1744 ?_
  refine r_topi (fun x28 ex28 => ?_)
  have h := h x28 ex28
  obtain ⟨i29, h⟩ := h
  refine r_scLd (pc := 1745) C E i29 dL_law_1745 ?_
  refine r_topi (fun x30 ex30 => ?_)
  have h := h x30 ex30
  refine r_aload_n (pc := 1746) C dL_law_1746 0 rfl ?_
  refine r_iload (pc := 1747) C dL_law_1747 4 rfl ?_
  refine r_iconst (pc := 1749) C (v := (4 : Int32)) dL_law_1749 (by decide) ?_
  refine r_iadd (pc := 1750) C dL_law_1750 ?_
  refine r_topi (fun x31 ex31 => ?_)
  have h := h x31 ex31
  obtain ⟨i32, h⟩ := h
  refine r_scLd (pc := 1751) C E i32 dL_law_1751 ?_
  refine r_topi (fun x33 ex33 => ?_)
  have h := h x33 ex33
  refine r_aload_n (pc := 1752) C dL_law_1752 0 rfl ?_
  refine r_iload (pc := 1753) C dL_law_1753 4 rfl ?_
  refine r_iconst (pc := 1755) C (v := (5 : Int32)) dL_law_1755 (by decide) ?_
  refine r_iadd (pc := 1756) C dL_law_1756 ?_
  refine r_topi (fun x34 ex34 => ?_)
  have h := h x34 ex34
  obtain ⟨i35, h⟩ := h
  refine r_scLd (pc := 1757) C E i35 dL_law_1757 ?_
  refine r_topi (fun x36 ex36 => ?_)
  have h := h x36 ex36
  refine r_aload_n (pc := 1758) C dL_law_1758 0 rfl ?_
  refine r_iload (pc := 1759) C dL_law_1759 4 rfl ?_
  refine r_bipush (pc := 1761) C (v := (6 : Int32)) dL_law_1761 (by decide) ?_
  refine r_iadd (pc := 1763) C dL_law_1763 ?_
  refine r_topi (fun x37 ex37 => ?_)
  have h := h x37 ex37
  obtain ⟨i38, h⟩ := h
  refine r_scLd (pc := 1764) C E i38 dL_law_1764 ?_
  refine r_topi (fun x39 ex39 => ?_)
  have h := h x39 ex39
  obtain ⟨o_v2, h⟩ := h
  obtain ⟨hk, hk2, h⟩ := h
  refine r_callVi0 (pc := 1765) C (rest := []) (a := v2) o_v2 [.int x24, .int x27, .int x30, .int x33, .int x36, .int x39] yV_X11_step g_1739 (c_X11_step h) dL_law_1765 rfl rfl (Nat.le_of_ble_eq_true rfl) ⟨by decide, by decide⟩ ⟨hk, hk2⟩ ⟨rfl, rfl⟩ (fun x42 S40 h g41 => ?_)
  have h := h g41
  have o_v1 := gr_ob g41 o_v1
  have o_v2 := gr_ob g41 o_v2
  refine r_pop (pc := 1768) C dL_law_1768 rfl ?_
  refine r_goto (pc := 1769) C (tgt := 2341) dL_law_1769 (by decide) ?_
  exact r_sub [0, 1, 2, 3, 4] rfl (T_L_law_2341 C E ht hn hX23 h)
def P_L_law_1772 (scL : Nat) (scx : Nat → Int32) (Q : Int32 → HS → Prop) (X23 : Nat → Nat → Nat → Int32 → Nat → Nat → HS → Prop) (v1 : Nat) (v2 : Nat) (v3 : Nat) (v4 : Int32) (kk : Nat) (nn : Nat) (S : HS) : Prop := ∀ x1 : Int32, x1 = v4 + (1 : Int32) → (vp_in x1 scL ∧ ∀ x3 : Int32, x3 = scx x1.toNatClampNeg → (∀ x4 : Int32, x4 = v4 + (2 : Int32) → (vp_in x4 scL ∧ ∀ x6 : Int32, x6 = scx x4.toNatClampNeg → (∀ x7 : Int32, x7 = v4 + (3 : Int32) → (vp_in x7 scL ∧ ∀ x9 : Int32, x9 = scx x7.toNatClampNeg → (∀ x10 : Int32, x10 = v4 + (4 : Int32) → (vp_in x10 scL ∧ ∀ x12 : Int32, x12 = scx x10.toNatClampNeg → (ob S v1 9 ∧ (kk + 8 ≤ rm_L_law.cells ∧ nn + 7937 ≤ rm_L_law.slots ∧ (P_X9_off v1 x3 x6 x9 x12 (fun x15 S13 => Gr S S13 → (∀ x16 : Int32, x16 = v4 + (1 : Int32) → (vp_in x16 scL ∧ ∀ x18 : Int32, x18 = scx x16.toNatClampNeg → (∀ x19 : Int32, x19 = v4 + (2 : Int32) → (vp_in x19 scL ∧ ∀ x21 : Int32, x21 = scx x19.toNatClampNeg → (∀ x22 : Int32, x22 = v4 + (3 : Int32) → (vp_in x22 scL ∧ ∀ x24 : Int32, x24 = scx x22.toNatClampNeg → (∀ x25 : Int32, x25 = v4 + (4 : Int32) → (vp_in x25 scL ∧ ∀ x27 : Int32, x27 = scx x25.toNatClampNeg → (ob S13 v2 11 ∧ (kk + 8 ≤ rm_L_law.cells ∧ nn + 7937 ≤ rm_L_law.slots ∧ (P_X11_off v2 x18 x21 x24 x27 (fun x30 S28 => Gr S13 S28 → (P_L_law_2341 scL scx Q X23 v1 v2 v3 v4 (kk + 8) (nn + 7937) S28)) S13)))))))))))) S))))))))))
set_option maxRecDepth 20000 in
set_option maxHeartbeats 4000000 in
theorem T_L_law_1772 {X : CX} {Q : Int32 → HS → Prop} {scb scL : Nat} {scx : Nat → Int32} (C : Cx X cL_law RL 7 rm_L_law) (E : LE X scb scL scx Q) (ht : LD X) (hn : True) {X23 : Nat → Nat → Nat → Int32 → Nat → Nat → HS → Prop} (hX23 : ∀ (v1 : Nat) (v2 : Nat) (v3 : Nat) (v4 : Int32) (kk : Nat) (nn : Nat) (S : HS), X23 v1 v2 v3 v4 kk nn S → WS X 7 kk nn 23 [(0, .ref scb), (1, .ref v1), (2, .ref v2), (3, .ref v3), (4, .int v4)] [] S) {v1 : Nat} {v2 : Nat} {v3 : Nat} {v4 : Int32} {kk : Nat} {nn : Nat} {S : HS} (h : P_L_law_1772 scL scx Q X23 v1 v2 v3 v4 kk nn S) : WS X 7 kk nn 1772 [(0, .ref scb), (1, .ref v1), (2, .ref v2), (3, .ref v3), (4, .int v4)] [] S := by
  refine r_aload_n (pc := 1772) C dL_law_1772 1 rfl ?_
  refine r_aload_n (pc := 1773) C dL_law_1773 0 rfl ?_
  refine r_iload (pc := 1774) C dL_law_1774 4 rfl ?_
  refine r_iconst (pc := 1776) C (v := (1 : Int32)) dL_law_1776 (by decide) ?_
  refine r_iadd (pc := 1777) C dL_law_1777 ?_
  refine r_topi (fun x1 ex1 => ?_)
  have h := h x1 ex1
  obtain ⟨i2, h⟩ := h
  refine r_scLd (pc := 1778) C E i2 dL_law_1778 ?_
  refine r_topi (fun x3 ex3 => ?_)
  have h := h x3 ex3
  refine r_aload_n (pc := 1779) C dL_law_1779 0 rfl ?_
  refine r_iload (pc := 1780) C dL_law_1780 4 rfl ?_
  refine r_iconst (pc := 1782) C (v := (2 : Int32)) dL_law_1782 (by decide) ?_
  refine r_iadd (pc := 1783) C dL_law_1783 ?_
  refine r_topi (fun x4 ex4 => ?_)
  have h := h x4 ex4
  obtain ⟨i5, h⟩ := h
  refine r_scLd (pc := 1784) C E i5 dL_law_1784 ?_
  refine r_topi (fun x6 ex6 => ?_)
  have h := h x6 ex6
  refine r_aload_n (pc := 1785) C dL_law_1785 0 rfl ?_
  refine r_iload (pc := 1786) C dL_law_1786 4 rfl ?_
  refine r_iconst (pc := 1788) C (v := (3 : Int32)) dL_law_1788 (by decide) ?_
  refine r_iadd (pc := 1789) C dL_law_1789 ?_
  refine r_topi (fun x7 ex7 => ?_)
  have h := h x7 ex7
  obtain ⟨i8, h⟩ := h
  refine r_scLd (pc := 1790) C E i8 dL_law_1790 ?_
  refine r_topi (fun x9 ex9 => ?_)
  have h := h x9 ex9
  refine r_aload_n (pc := 1791) C dL_law_1791 0 rfl ?_
  refine r_iload (pc := 1792) C dL_law_1792 4 rfl ?_
  refine r_iconst (pc := 1794) C (v := (4 : Int32)) dL_law_1794 (by decide) ?_
  refine r_iadd (pc := 1795) C dL_law_1795 ?_
  refine r_topi (fun x10 ex10 => ?_)
  have h := h x10 ex10
  obtain ⟨i11, h⟩ := h
  refine r_scLd (pc := 1796) C E i11 dL_law_1796 ?_
  refine r_topi (fun x12 ex12 => ?_)
  have h := h x12 ex12
  obtain ⟨o_v1, h⟩ := h
  obtain ⟨hk, hk2, h⟩ := h
  refine r_callVi (pc := 1797) C (rest := []) (a := v1) o_v1 [.int x3, .int x6, .int x9, .int x12] yV_X9_off g_921 (c_X9_off h) dL_law_1797 rfl rfl (Nat.le_of_ble_eq_true rfl) ⟨by decide, by decide⟩ ⟨hk, hk2⟩ (fun x15 S13 h g14 => ?_)
  have h := h g14
  have o_v1 := gr_ob g14 o_v1
  refine r_pop (pc := 1800) C dL_law_1800 rfl ?_
  refine r_aload_n (pc := 1801) C dL_law_1801 2 rfl ?_
  refine r_aload_n (pc := 1802) C dL_law_1802 0 rfl ?_
  refine r_iload (pc := 1803) C dL_law_1803 4 rfl ?_
  refine r_iconst (pc := 1805) C (v := (1 : Int32)) dL_law_1805 (by decide) ?_
  refine r_iadd (pc := 1806) C dL_law_1806 ?_
  refine r_topi (fun x16 ex16 => ?_)
  have h := h x16 ex16
  obtain ⟨i17, h⟩ := h
  refine r_scLd (pc := 1807) C E i17 dL_law_1807 ?_
  refine r_topi (fun x18 ex18 => ?_)
  have h := h x18 ex18
  refine r_aload_n (pc := 1808) C dL_law_1808 0 rfl ?_
  refine r_iload (pc := 1809) C dL_law_1809 4 rfl ?_
  refine r_iconst (pc := 1811) C (v := (2 : Int32)) dL_law_1811 (by decide) ?_
  refine r_iadd (pc := 1812) C dL_law_1812 ?_
  refine r_topi (fun x19 ex19 => ?_)
  have h := h x19 ex19
  obtain ⟨i20, h⟩ := h
  refine r_scLd (pc := 1813) C E i20 dL_law_1813 ?_
  refine r_topi (fun x21 ex21 => ?_)
  have h := h x21 ex21
  refine r_aload_n (pc := 1814) C dL_law_1814 0 rfl ?_
  refine r_iload (pc := 1815) C dL_law_1815 4 rfl ?_
  refine r_iconst (pc := 1817) C (v := (3 : Int32)) dL_law_1817 (by decide) ?_
  refine r_iadd (pc := 1818) C dL_law_1818 ?_
  refine r_topi (fun x22 ex22 => ?_)
  have h := h x22 ex22
  obtain ⟨i23, h⟩ := h
  refine r_scLd (pc := 1819) C E i23 dL_law_1819 ?_
  refine r_topi (fun x24 ex24 => ?_)
  have h := h x24 ex24
  refine r_aload_n (pc := 1820) C dL_law_1820 0 rfl ?_
  refine r_iload (pc := 1821) C dL_law_1821 4 rfl ?_
  refine r_iconst (pc := 1823) C (v := (4 : Int32)) dL_law_1823 (by decide) ?_
  refine r_iadd (pc := 1824) C dL_law_1824 ?_
  refine r_topi (fun x25 ex25 => ?_)
  have h := h x25 ex25
  obtain ⟨i26, h⟩ := h
  refine r_scLd (pc := 1825) C E i26 dL_law_1825 ?_
  refine r_topi (fun x27 ex27 => ?_)
  have h := h x27 ex27
  obtain ⟨o_v2, h⟩ := h
  obtain ⟨hk, hk2, h⟩ := h
  refine r_callVi0 (pc := 1826) C (rest := []) (a := v2) o_v2 [.int x18, .int x21, .int x24, .int x27] yV_X11_off g_1743 (c_X11_off h) dL_law_1826 rfl rfl (Nat.le_of_ble_eq_true rfl) ⟨by decide, by decide⟩ ⟨hk, hk2⟩ ⟨rfl, rfl⟩ (fun x30 S28 h g29 => ?_)
  have h := h g29
  have o_v1 := gr_ob g29 o_v1
  have o_v2 := gr_ob g29 o_v2
  refine r_pop (pc := 1829) C dL_law_1829 rfl ?_
  refine r_goto (pc := 1830) C (tgt := 2341) dL_law_1830 (by decide) ?_
  exact r_sub [0, 1, 2, 3, 4] rfl (T_L_law_2341 C E ht hn hX23 h)
end
section
def P_L_law_1833 (scL : Nat) (scx : Nat → Int32) (Q : Int32 → HS → Prop) (X23 : Nat → Nat → Nat → Int32 → Nat → Nat → HS → Prop) (v1 : Nat) (v2 : Nat) (v3 : Nat) (v4 : Int32) (kk : Nat) (nn : Nat) (S : HS) : Prop := ∀ x1 : Int32, x1 = v4 + (1 : Int32) → (vp_in x1 scL ∧ ∀ x3 : Int32, x3 = scx x1.toNatClampNeg → (ob S v1 9 ∧ (kk ≤ rm_L_law.cells ∧ nn ≤ rm_L_law.slots ∧ (P_X9_fits v1 x3 (fun x6 S4 => Gr S S4 → (∀ x7 : Int32, x7 = v4 + (1 : Int32) → (vp_in x7 scL ∧ ∀ x9 : Int32, x9 = scx x7.toNatClampNeg → (ob S4 v2 11 ∧ (kk ≤ rm_L_law.cells ∧ nn ≤ rm_L_law.slots ∧ (P_X11_fits v2 x9 (fun x12 S10 => Gr S4 S10 → (P_L_law_2341 scL scx Q X23 v1 v2 v3 v4 kk nn S10)) S4)))))) S))))
set_option maxRecDepth 20000 in
set_option maxHeartbeats 4000000 in
theorem T_L_law_1833 {X : CX} {Q : Int32 → HS → Prop} {scb scL : Nat} {scx : Nat → Int32} (C : Cx X cL_law RL 7 rm_L_law) (E : LE X scb scL scx Q) (ht : LD X) (hn : True) {X23 : Nat → Nat → Nat → Int32 → Nat → Nat → HS → Prop} (hX23 : ∀ (v1 : Nat) (v2 : Nat) (v3 : Nat) (v4 : Int32) (kk : Nat) (nn : Nat) (S : HS), X23 v1 v2 v3 v4 kk nn S → WS X 7 kk nn 23 [(0, .ref scb), (1, .ref v1), (2, .ref v2), (3, .ref v3), (4, .int v4)] [] S) {v1 : Nat} {v2 : Nat} {v3 : Nat} {v4 : Int32} {kk : Nat} {nn : Nat} {S : HS} (h : P_L_law_1833 scL scx Q X23 v1 v2 v3 v4 kk nn S) : WS X 7 kk nn 1833 [(0, .ref scb), (1, .ref v1), (2, .ref v2), (3, .ref v3), (4, .int v4)] [] S := by
  refine r_aload_n (pc := 1833) C dL_law_1833 1 rfl ?_
  refine r_aload_n (pc := 1834) C dL_law_1834 0 rfl ?_
  refine r_iload (pc := 1835) C dL_law_1835 4 rfl ?_
  refine r_iconst (pc := 1837) C (v := (1 : Int32)) dL_law_1837 (by decide) ?_
  refine r_iadd (pc := 1838) C dL_law_1838 ?_
  refine r_topi (fun x1 ex1 => ?_)
  have h := h x1 ex1
  obtain ⟨i2, h⟩ := h
  refine r_scLd (pc := 1839) C E i2 dL_law_1839 ?_
  refine r_topi (fun x3 ex3 => ?_)
  have h := h x3 ex3
  obtain ⟨o_v1, h⟩ := h
  obtain ⟨hk, hk2, h⟩ := h
  refine r_callVi0 (pc := 1840) C (rest := []) (a := v1) o_v1 [.int x3] yV_X9_fits g_925 (c_X9_fits h) dL_law_1840 rfl rfl (Nat.le_of_ble_eq_true rfl) ⟨by decide, by decide⟩ ⟨hk, hk2⟩ ⟨rfl, rfl⟩ (fun x6 S4 h g5 => ?_)
  have h := h g5
  have o_v1 := gr_ob g5 o_v1
  refine r_pop (pc := 1843) C dL_law_1843 rfl ?_
  refine r_aload_n (pc := 1844) C dL_law_1844 2 rfl ?_
  refine r_aload_n (pc := 1845) C dL_law_1845 0 rfl ?_
  refine r_iload (pc := 1846) C dL_law_1846 4 rfl ?_
  refine r_iconst (pc := 1848) C (v := (1 : Int32)) dL_law_1848 (by decide) ?_
  refine r_iadd (pc := 1849) C dL_law_1849 ?_
  refine r_topi (fun x7 ex7 => ?_)
  have h := h x7 ex7
  obtain ⟨i8, h⟩ := h
  refine r_scLd (pc := 1850) C E i8 dL_law_1850 ?_
  refine r_topi (fun x9 ex9 => ?_)
  have h := h x9 ex9
  obtain ⟨o_v2, h⟩ := h
  obtain ⟨hk, hk2, h⟩ := h
  refine r_callVi0 (pc := 1851) C (rest := []) (a := v2) o_v2 [.int x9] yV_X11_fits g_1747 (c_X11_fits h) dL_law_1851 rfl rfl (Nat.le_of_ble_eq_true rfl) ⟨by decide, by decide⟩ ⟨hk, hk2⟩ ⟨rfl, rfl⟩ (fun x12 S10 h g11 => ?_)
  have h := h g11
  have o_v1 := gr_ob g11 o_v1
  have o_v2 := gr_ob g11 o_v2
  refine r_pop (pc := 1854) C dL_law_1854 rfl ?_
  refine r_goto (pc := 1855) C (tgt := 2341) dL_law_1855 (by decide) ?_
  exact r_sub [0, 1, 2, 3, 4] rfl (T_L_law_2341 C E ht hn hX23 h)
def P_L_law_1858 (scL : Nat) (scx : Nat → Int32) (Q : Int32 → HS → Prop) (X23 : Nat → Nat → Nat → Int32 → Nat → Nat → HS → Prop) (v1 : Nat) (v2 : Nat) (v3 : Nat) (v4 : Int32) (kk : Nat) (nn : Nat) (S : HS) : Prop := ∀ x1 : Int32, x1 = v4 + (1 : Int32) → (vp_in x1 scL ∧ ∀ x3 : Int32, x3 = scx x1.toNatClampNeg → (∀ x4 : Int32, x4 = v4 + (2 : Int32) → (vp_in x4 scL ∧ ∀ x6 : Int32, x6 = scx x4.toNatClampNeg → (ob S v1 9 ∧ (kk ≤ rm_L_law.cells ∧ nn ≤ rm_L_law.slots ∧ (P_X9_fit v1 x3 x6 (fun x9 S7 => Gr S S7 → (∀ x10 : Int32, x10 = v4 + (1 : Int32) → (vp_in x10 scL ∧ ∀ x12 : Int32, x12 = scx x10.toNatClampNeg → (∀ x13 : Int32, x13 = v4 + (2 : Int32) → (vp_in x13 scL ∧ ∀ x15 : Int32, x15 = scx x13.toNatClampNeg → (ob S7 v2 11 ∧ (kk ≤ rm_L_law.cells ∧ nn ≤ rm_L_law.slots ∧ (P_X11_fit v2 x12 x15 (fun x18 S16 => Gr S7 S16 → (P_L_law_2341 scL scx Q X23 v1 v2 v3 v4 kk nn S16)) S7)))))))) S))))))
set_option maxRecDepth 20000 in
set_option maxHeartbeats 4000000 in
theorem T_L_law_1858 {X : CX} {Q : Int32 → HS → Prop} {scb scL : Nat} {scx : Nat → Int32} (C : Cx X cL_law RL 7 rm_L_law) (E : LE X scb scL scx Q) (ht : LD X) (hn : True) {X23 : Nat → Nat → Nat → Int32 → Nat → Nat → HS → Prop} (hX23 : ∀ (v1 : Nat) (v2 : Nat) (v3 : Nat) (v4 : Int32) (kk : Nat) (nn : Nat) (S : HS), X23 v1 v2 v3 v4 kk nn S → WS X 7 kk nn 23 [(0, .ref scb), (1, .ref v1), (2, .ref v2), (3, .ref v3), (4, .int v4)] [] S) {v1 : Nat} {v2 : Nat} {v3 : Nat} {v4 : Int32} {kk : Nat} {nn : Nat} {S : HS} (h : P_L_law_1858 scL scx Q X23 v1 v2 v3 v4 kk nn S) : WS X 7 kk nn 1858 [(0, .ref scb), (1, .ref v1), (2, .ref v2), (3, .ref v3), (4, .int v4)] [] S := by
  refine r_aload_n (pc := 1858) C dL_law_1858 1 rfl ?_
  refine r_aload_n (pc := 1859) C dL_law_1859 0 rfl ?_
  refine r_iload (pc := 1860) C dL_law_1860 4 rfl ?_
  refine r_iconst (pc := 1862) C (v := (1 : Int32)) dL_law_1862 (by decide) ?_
  refine r_iadd (pc := 1863) C dL_law_1863 ?_
  refine r_topi (fun x1 ex1 => ?_)
  have h := h x1 ex1
  obtain ⟨i2, h⟩ := h
  refine r_scLd (pc := 1864) C E i2 dL_law_1864 ?_
  refine r_topi (fun x3 ex3 => ?_)
  have h := h x3 ex3
  refine r_aload_n (pc := 1865) C dL_law_1865 0 rfl ?_
  refine r_iload (pc := 1866) C dL_law_1866 4 rfl ?_
  refine r_iconst (pc := 1868) C (v := (2 : Int32)) dL_law_1868 (by decide) ?_
  refine r_iadd (pc := 1869) C dL_law_1869 ?_
  refine r_topi (fun x4 ex4 => ?_)
  have h := h x4 ex4
  obtain ⟨i5, h⟩ := h
  refine r_scLd (pc := 1870) C E i5 dL_law_1870 ?_
  refine r_topi (fun x6 ex6 => ?_)
  have h := h x6 ex6
  obtain ⟨o_v1, h⟩ := h
  obtain ⟨hk, hk2, h⟩ := h
  refine r_callVi0 (pc := 1871) C (rest := []) (a := v1) o_v1 [.int x3, .int x6] yV_X9_fit g_949 (c_X9_fit h) dL_law_1871 rfl rfl (Nat.le_of_ble_eq_true rfl) ⟨by decide, by decide⟩ ⟨hk, hk2⟩ ⟨rfl, rfl⟩ (fun x9 S7 h g8 => ?_)
  have h := h g8
  have o_v1 := gr_ob g8 o_v1
  refine r_pop (pc := 1874) C dL_law_1874 rfl ?_
  refine r_aload_n (pc := 1875) C dL_law_1875 2 rfl ?_
  refine r_aload_n (pc := 1876) C dL_law_1876 0 rfl ?_
  refine r_iload (pc := 1877) C dL_law_1877 4 rfl ?_
  refine r_iconst (pc := 1879) C (v := (1 : Int32)) dL_law_1879 (by decide) ?_
  refine r_iadd (pc := 1880) C dL_law_1880 ?_
  refine r_topi (fun x10 ex10 => ?_)
  have h := h x10 ex10
  obtain ⟨i11, h⟩ := h
  refine r_scLd (pc := 1881) C E i11 dL_law_1881 ?_
  refine r_topi (fun x12 ex12 => ?_)
  have h := h x12 ex12
  refine r_aload_n (pc := 1882) C dL_law_1882 0 rfl ?_
  refine r_iload (pc := 1883) C dL_law_1883 4 rfl ?_
  refine r_iconst (pc := 1885) C (v := (2 : Int32)) dL_law_1885 (by decide) ?_
  refine r_iadd (pc := 1886) C dL_law_1886 ?_
  refine r_topi (fun x13 ex13 => ?_)
  have h := h x13 ex13
  obtain ⟨i14, h⟩ := h
  refine r_scLd (pc := 1887) C E i14 dL_law_1887 ?_
  refine r_topi (fun x15 ex15 => ?_)
  have h := h x15 ex15
  obtain ⟨o_v2, h⟩ := h
  obtain ⟨hk, hk2, h⟩ := h
  refine r_callVi0 (pc := 1888) C (rest := []) (a := v2) o_v2 [.int x12, .int x15] yV_X11_fit g_1759 (c_X11_fit h) dL_law_1888 rfl rfl (Nat.le_of_ble_eq_true rfl) ⟨by decide, by decide⟩ ⟨hk, hk2⟩ ⟨rfl, rfl⟩ (fun x18 S16 h g17 => ?_)
  have h := h g17
  have o_v1 := gr_ob g17 o_v1
  have o_v2 := gr_ob g17 o_v2
  refine r_pop (pc := 1891) C dL_law_1891 rfl ?_
  refine r_goto (pc := 1892) C (tgt := 2341) dL_law_1892 (by decide) ?_
  exact r_sub [0, 1, 2, 3, 4] rfl (T_L_law_2341 C E ht hn hX23 h)
def P_L_law_1895 (scL : Nat) (scx : Nat → Int32) (Q : Int32 → HS → Prop) (X23 : Nat → Nat → Nat → Int32 → Nat → Nat → HS → Prop) (v1 : Nat) (v2 : Nat) (v3 : Nat) (v4 : Int32) (kk : Nat) (nn : Nat) (S : HS) : Prop := ob S v1 9 ∧ (kk ≤ rm_L_law.cells ∧ nn ≤ rm_L_law.slots ∧ (P_X9_lies v1 (fun x3 S1 => Gr S S1 → (ob S1 v2 11 ∧ (kk ≤ rm_L_law.cells ∧ nn ≤ rm_L_law.slots ∧ (P_X11_lies v2 (fun x6 S4 => Gr S1 S4 → (P_L_law_2341 scL scx Q X23 v1 v2 v3 v4 kk nn S4)) S1)))) S))
set_option maxRecDepth 20000 in
set_option maxHeartbeats 4000000 in
theorem T_L_law_1895 {X : CX} {Q : Int32 → HS → Prop} {scb scL : Nat} {scx : Nat → Int32} (C : Cx X cL_law RL 7 rm_L_law) (E : LE X scb scL scx Q) (ht : LD X) (hn : True) {X23 : Nat → Nat → Nat → Int32 → Nat → Nat → HS → Prop} (hX23 : ∀ (v1 : Nat) (v2 : Nat) (v3 : Nat) (v4 : Int32) (kk : Nat) (nn : Nat) (S : HS), X23 v1 v2 v3 v4 kk nn S → WS X 7 kk nn 23 [(0, .ref scb), (1, .ref v1), (2, .ref v2), (3, .ref v3), (4, .int v4)] [] S) {v1 : Nat} {v2 : Nat} {v3 : Nat} {v4 : Int32} {kk : Nat} {nn : Nat} {S : HS} (h : P_L_law_1895 scL scx Q X23 v1 v2 v3 v4 kk nn S) : WS X 7 kk nn 1895 [(0, .ref scb), (1, .ref v1), (2, .ref v2), (3, .ref v3), (4, .int v4)] [] S := by
  refine r_aload_n (pc := 1895) C dL_law_1895 1 rfl ?_
  obtain ⟨o_v1, h⟩ := h
  obtain ⟨hk, hk2, h⟩ := h
  refine r_callVi0 (pc := 1896) C (rest := []) (a := v1) o_v1 [] yV_X9_lies g_957 (c_X9_lies h) dL_law_1896 rfl rfl (Nat.le_of_ble_eq_true rfl) ⟨by decide, by decide⟩ ⟨hk, hk2⟩ ⟨rfl, rfl⟩ (fun x3 S1 h g2 => ?_)
  have h := h g2
  have o_v1 := gr_ob g2 o_v1
  refine r_pop (pc := 1899) C dL_law_1899 rfl ?_
  refine r_aload_n (pc := 1900) C dL_law_1900 2 rfl ?_
  obtain ⟨o_v2, h⟩ := h
  obtain ⟨hk, hk2, h⟩ := h
  refine r_callVi0 (pc := 1901) C (rest := []) (a := v2) o_v2 [] yV_X11_lies g_1763 (c_X11_lies h) dL_law_1901 rfl rfl (Nat.le_of_ble_eq_true rfl) ⟨by decide, by decide⟩ ⟨hk, hk2⟩ ⟨rfl, rfl⟩ (fun x6 S4 h g5 => ?_)
  have h := h g5
  have o_v1 := gr_ob g5 o_v1
  have o_v2 := gr_ob g5 o_v2
  refine r_pop (pc := 1904) C dL_law_1904 rfl ?_
  refine r_goto (pc := 1905) C (tgt := 2341) dL_law_1905 (by decide) ?_
  exact r_sub [0, 1, 2, 3, 4] rfl (T_L_law_2341 C E ht hn hX23 h)
def P_L_law_1908 (scL : Nat) (scx : Nat → Int32) (Q : Int32 → HS → Prop) (X23 : Nat → Nat → Nat → Int32 → Nat → Nat → HS → Prop) (v1 : Nat) (v2 : Nat) (v3 : Nat) (v4 : Int32) (kk : Nat) (nn : Nat) (S : HS) : Prop := ∀ x1 : Int32, x1 = v4 + (1 : Int32) → (vp_in x1 scL ∧ ∀ x3 : Int32, x3 = scx x1.toNatClampNeg → (∀ x4 : Int32, x4 = v4 + (2 : Int32) → (vp_in x4 scL ∧ ∀ x6 : Int32, x6 = scx x4.toNatClampNeg → (∀ x7 : Int32, x7 = v4 + (3 : Int32) → (vp_in x7 scL ∧ ∀ x9 : Int32, x9 = scx x7.toNatClampNeg → (∀ x10 : Int32, x10 = v4 + (4 : Int32) → (vp_in x10 scL ∧ ∀ x12 : Int32, x12 = scx x10.toNatClampNeg → (ob S v1 9 ∧ (kk ≤ rm_L_law.cells ∧ nn ≤ rm_L_law.slots ∧ (P_X9_day v1 x3 x6 x9 x12 (fun x15 S13 => Gr S S13 → (∀ x16 : Int32, x16 = v4 + (1 : Int32) → (vp_in x16 scL ∧ ∀ x18 : Int32, x18 = scx x16.toNatClampNeg → (∀ x19 : Int32, x19 = v4 + (2 : Int32) → (vp_in x19 scL ∧ ∀ x21 : Int32, x21 = scx x19.toNatClampNeg → (∀ x22 : Int32, x22 = v4 + (3 : Int32) → (vp_in x22 scL ∧ ∀ x24 : Int32, x24 = scx x22.toNatClampNeg → (∀ x25 : Int32, x25 = v4 + (4 : Int32) → (vp_in x25 scL ∧ ∀ x27 : Int32, x27 = scx x25.toNatClampNeg → (ob S13 v2 11 ∧ (kk ≤ rm_L_law.cells ∧ nn ≤ rm_L_law.slots ∧ (P_X11_day v2 x18 x21 x24 x27 (fun x30 S28 => Gr S13 S28 → (P_L_law_2341 scL scx Q X23 v1 v2 v3 v4 kk nn S28)) S13)))))))))))) S))))))))))
set_option maxRecDepth 20000 in
set_option maxHeartbeats 4000000 in
theorem T_L_law_1908 {X : CX} {Q : Int32 → HS → Prop} {scb scL : Nat} {scx : Nat → Int32} (C : Cx X cL_law RL 7 rm_L_law) (E : LE X scb scL scx Q) (ht : LD X) (hn : True) {X23 : Nat → Nat → Nat → Int32 → Nat → Nat → HS → Prop} (hX23 : ∀ (v1 : Nat) (v2 : Nat) (v3 : Nat) (v4 : Int32) (kk : Nat) (nn : Nat) (S : HS), X23 v1 v2 v3 v4 kk nn S → WS X 7 kk nn 23 [(0, .ref scb), (1, .ref v1), (2, .ref v2), (3, .ref v3), (4, .int v4)] [] S) {v1 : Nat} {v2 : Nat} {v3 : Nat} {v4 : Int32} {kk : Nat} {nn : Nat} {S : HS} (h : P_L_law_1908 scL scx Q X23 v1 v2 v3 v4 kk nn S) : WS X 7 kk nn 1908 [(0, .ref scb), (1, .ref v1), (2, .ref v2), (3, .ref v3), (4, .int v4)] [] S := by
  refine r_aload_n (pc := 1908) C dL_law_1908 1 rfl ?_
  refine r_aload_n (pc := 1909) C dL_law_1909 0 rfl ?_
  refine r_iload (pc := 1910) C dL_law_1910 4 rfl ?_
  refine r_iconst (pc := 1912) C (v := (1 : Int32)) dL_law_1912 (by decide) ?_
  refine r_iadd (pc := 1913) C dL_law_1913 ?_
  refine r_topi (fun x1 ex1 => ?_)
  have h := h x1 ex1
  obtain ⟨i2, h⟩ := h
  refine r_scLd (pc := 1914) C E i2 dL_law_1914 ?_
  refine r_topi (fun x3 ex3 => ?_)
  have h := h x3 ex3
  refine r_aload_n (pc := 1915) C dL_law_1915 0 rfl ?_
  refine r_iload (pc := 1916) C dL_law_1916 4 rfl ?_
  refine r_iconst (pc := 1918) C (v := (2 : Int32)) dL_law_1918 (by decide) ?_
  refine r_iadd (pc := 1919) C dL_law_1919 ?_
  refine r_topi (fun x4 ex4 => ?_)
  have h := h x4 ex4
  obtain ⟨i5, h⟩ := h
  refine r_scLd (pc := 1920) C E i5 dL_law_1920 ?_
  refine r_topi (fun x6 ex6 => ?_)
  have h := h x6 ex6
  refine r_aload_n (pc := 1921) C dL_law_1921 0 rfl ?_
  refine r_iload (pc := 1922) C dL_law_1922 4 rfl ?_
  refine r_iconst (pc := 1924) C (v := (3 : Int32)) dL_law_1924 (by decide) ?_
  refine r_iadd (pc := 1925) C dL_law_1925 ?_
  refine r_topi (fun x7 ex7 => ?_)
  have h := h x7 ex7
  obtain ⟨i8, h⟩ := h
  refine r_scLd (pc := 1926) C E i8 dL_law_1926 ?_
  refine r_topi (fun x9 ex9 => ?_)
  have h := h x9 ex9
  refine r_aload_n (pc := 1927) C dL_law_1927 0 rfl ?_
  refine r_iload (pc := 1928) C dL_law_1928 4 rfl ?_
  refine r_iconst (pc := 1930) C (v := (4 : Int32)) dL_law_1930 (by decide) ?_
  refine r_iadd (pc := 1931) C dL_law_1931 ?_
  refine r_topi (fun x10 ex10 => ?_)
  have h := h x10 ex10
  obtain ⟨i11, h⟩ := h
  refine r_scLd (pc := 1932) C E i11 dL_law_1932 ?_
  refine r_topi (fun x12 ex12 => ?_)
  have h := h x12 ex12
  obtain ⟨o_v1, h⟩ := h
  obtain ⟨hk, hk2, h⟩ := h
  refine r_callVi0 (pc := 1933) C (rest := []) (a := v1) o_v1 [.int x3, .int x6, .int x9, .int x12] yV_X9_day g_962 (c_X9_day h) dL_law_1933 rfl rfl (Nat.le_of_ble_eq_true rfl) ⟨by decide, by decide⟩ ⟨hk, hk2⟩ ⟨rfl, rfl⟩ (fun x15 S13 h g14 => ?_)
  have h := h g14
  have o_v1 := gr_ob g14 o_v1
  refine r_pop (pc := 1936) C dL_law_1936 rfl ?_
  refine r_aload_n (pc := 1937) C dL_law_1937 2 rfl ?_
  refine r_aload_n (pc := 1938) C dL_law_1938 0 rfl ?_
  refine r_iload (pc := 1939) C dL_law_1939 4 rfl ?_
  refine r_iconst (pc := 1941) C (v := (1 : Int32)) dL_law_1941 (by decide) ?_
  refine r_iadd (pc := 1942) C dL_law_1942 ?_
  refine r_topi (fun x16 ex16 => ?_)
  have h := h x16 ex16
  obtain ⟨i17, h⟩ := h
  refine r_scLd (pc := 1943) C E i17 dL_law_1943 ?_
  refine r_topi (fun x18 ex18 => ?_)
  have h := h x18 ex18
  refine r_aload_n (pc := 1944) C dL_law_1944 0 rfl ?_
  refine r_iload (pc := 1945) C dL_law_1945 4 rfl ?_
  refine r_iconst (pc := 1947) C (v := (2 : Int32)) dL_law_1947 (by decide) ?_
  refine r_iadd (pc := 1948) C dL_law_1948 ?_
  refine r_topi (fun x19 ex19 => ?_)
  have h := h x19 ex19
  obtain ⟨i20, h⟩ := h
  refine r_scLd (pc := 1949) C E i20 dL_law_1949 ?_
  refine r_topi (fun x21 ex21 => ?_)
  have h := h x21 ex21
  refine r_aload_n (pc := 1950) C dL_law_1950 0 rfl ?_
  refine r_iload (pc := 1951) C dL_law_1951 4 rfl ?_
  refine r_iconst (pc := 1953) C (v := (3 : Int32)) dL_law_1953 (by decide) ?_
  refine r_iadd (pc := 1954) C dL_law_1954 ?_
  refine r_topi (fun x22 ex22 => ?_)
  have h := h x22 ex22
  obtain ⟨i23, h⟩ := h
  refine r_scLd (pc := 1955) C E i23 dL_law_1955 ?_
  refine r_topi (fun x24 ex24 => ?_)
  have h := h x24 ex24
  refine r_aload_n (pc := 1956) C dL_law_1956 0 rfl ?_
  refine r_iload (pc := 1957) C dL_law_1957 4 rfl ?_
  refine r_iconst (pc := 1959) C (v := (4 : Int32)) dL_law_1959 (by decide) ?_
  refine r_iadd (pc := 1960) C dL_law_1960 ?_
  refine r_topi (fun x25 ex25 => ?_)
  have h := h x25 ex25
  obtain ⟨i26, h⟩ := h
  refine r_scLd (pc := 1961) C E i26 dL_law_1961 ?_
  refine r_topi (fun x27 ex27 => ?_)
  have h := h x27 ex27
  obtain ⟨o_v2, h⟩ := h
  obtain ⟨hk, hk2, h⟩ := h
  refine r_callVi0 (pc := 1962) C (rest := []) (a := v2) o_v2 [.int x18, .int x21, .int x24, .int x27] yV_X11_day g_1767 (c_X11_day h) dL_law_1962 rfl rfl (Nat.le_of_ble_eq_true rfl) ⟨by decide, by decide⟩ ⟨hk, hk2⟩ ⟨rfl, rfl⟩ (fun x30 S28 h g29 => ?_)
  have h := h g29
  have o_v1 := gr_ob g29 o_v1
  have o_v2 := gr_ob g29 o_v2
  refine r_pop (pc := 1965) C dL_law_1965 rfl ?_
  refine r_goto (pc := 1966) C (tgt := 2341) dL_law_1966 (by decide) ?_
  exact r_sub [0, 1, 2, 3, 4] rfl (T_L_law_2341 C E ht hn hX23 h)
def P_L_law_1969 (scL : Nat) (scx : Nat → Int32) (Q : Int32 → HS → Prop) (X23 : Nat → Nat → Nat → Int32 → Nat → Nat → HS → Prop) (v1 : Nat) (v2 : Nat) (v3 : Nat) (v4 : Int32) (kk : Nat) (nn : Nat) (S : HS) : Prop := ∀ x1 : Int32, x1 = v4 + (1 : Int32) → (vp_in x1 scL ∧ ∀ x3 : Int32, x3 = scx x1.toNatClampNeg → (∀ x4 : Int32, x4 = v4 + (2 : Int32) → (vp_in x4 scL ∧ ∀ x6 : Int32, x6 = scx x4.toNatClampNeg → (∀ x7 : Int32, x7 = v4 + (3 : Int32) → (vp_in x7 scL ∧ ∀ x9 : Int32, x9 = scx x7.toNatClampNeg → (ob S v1 9 ∧ (kk ≤ rm_L_law.cells ∧ nn ≤ rm_L_law.slots ∧ (P_X9_go v1 x3 x6 x9 (fun x12 S10 => Gr S S10 → (∀ x13 : Int32, x13 = v4 + (1 : Int32) → (vp_in x13 scL ∧ ∀ x15 : Int32, x15 = scx x13.toNatClampNeg → (∀ x16 : Int32, x16 = v4 + (2 : Int32) → (vp_in x16 scL ∧ ∀ x18 : Int32, x18 = scx x16.toNatClampNeg → (∀ x19 : Int32, x19 = v4 + (3 : Int32) → (vp_in x19 scL ∧ ∀ x21 : Int32, x21 = scx x19.toNatClampNeg → (ob S10 v2 11 ∧ (kk ≤ rm_L_law.cells ∧ nn ≤ rm_L_law.slots ∧ (P_X11_go v2 x15 x18 x21 (fun x24 S22 => Gr S10 S22 → (P_L_law_2341 scL scx Q X23 v1 v2 v3 v4 kk nn S22)) S10)))))))))) S))))))))
set_option maxRecDepth 20000 in
set_option maxHeartbeats 4000000 in
theorem T_L_law_1969 {X : CX} {Q : Int32 → HS → Prop} {scb scL : Nat} {scx : Nat → Int32} (C : Cx X cL_law RL 7 rm_L_law) (E : LE X scb scL scx Q) (ht : LD X) (hn : True) {X23 : Nat → Nat → Nat → Int32 → Nat → Nat → HS → Prop} (hX23 : ∀ (v1 : Nat) (v2 : Nat) (v3 : Nat) (v4 : Int32) (kk : Nat) (nn : Nat) (S : HS), X23 v1 v2 v3 v4 kk nn S → WS X 7 kk nn 23 [(0, .ref scb), (1, .ref v1), (2, .ref v2), (3, .ref v3), (4, .int v4)] [] S) {v1 : Nat} {v2 : Nat} {v3 : Nat} {v4 : Int32} {kk : Nat} {nn : Nat} {S : HS} (h : P_L_law_1969 scL scx Q X23 v1 v2 v3 v4 kk nn S) : WS X 7 kk nn 1969 [(0, .ref scb), (1, .ref v1), (2, .ref v2), (3, .ref v3), (4, .int v4)] [] S := by
  refine r_aload_n (pc := 1969) C dL_law_1969 1 rfl ?_
  refine r_aload_n (pc := 1970) C dL_law_1970 0 rfl ?_
  refine r_iload (pc := 1971) C dL_law_1971 4 rfl ?_
  refine r_iconst (pc := 1973) C (v := (1 : Int32)) dL_law_1973 (by decide) ?_
  refine r_iadd (pc := 1974) C dL_law_1974 ?_
  refine r_topi (fun x1 ex1 => ?_)
  have h := h x1 ex1
  obtain ⟨i2, h⟩ := h
  refine r_scLd (pc := 1975) C E i2 dL_law_1975 ?_
  refine r_topi (fun x3 ex3 => ?_)
  have h := h x3 ex3
  refine r_aload_n (pc := 1976) C dL_law_1976 0 rfl ?_
  refine r_iload (pc := 1977) C dL_law_1977 4 rfl ?_
  refine r_iconst (pc := 1979) C (v := (2 : Int32)) dL_law_1979 (by decide) ?_
  refine r_iadd (pc := 1980) C dL_law_1980 ?_
  refine r_topi (fun x4 ex4 => ?_)
  have h := h x4 ex4
  obtain ⟨i5, h⟩ := h
  refine r_scLd (pc := 1981) C E i5 dL_law_1981 ?_
  refine r_topi (fun x6 ex6 => ?_)
  have h := h x6 ex6
  refine r_aload_n (pc := 1982) C dL_law_1982 0 rfl ?_
  refine r_iload (pc := 1983) C dL_law_1983 4 rfl ?_
  refine r_iconst (pc := 1985) C (v := (3 : Int32)) dL_law_1985 (by decide) ?_
  refine r_iadd (pc := 1986) C dL_law_1986 ?_
  refine r_topi (fun x7 ex7 => ?_)
  have h := h x7 ex7
  obtain ⟨i8, h⟩ := h
  refine r_scLd (pc := 1987) C E i8 dL_law_1987 ?_
  refine r_topi (fun x9 ex9 => ?_)
  have h := h x9 ex9
  obtain ⟨o_v1, h⟩ := h
  obtain ⟨hk, hk2, h⟩ := h
  refine r_callVi0 (pc := 1988) C (rest := []) (a := v1) o_v1 [.int x3, .int x6, .int x9] yV_X9_go g_977 (c_X9_go h) dL_law_1988 rfl rfl (Nat.le_of_ble_eq_true rfl) ⟨by decide, by decide⟩ ⟨hk, hk2⟩ ⟨rfl, rfl⟩ (fun x12 S10 h g11 => ?_)
  have h := h g11
  have o_v1 := gr_ob g11 o_v1
  refine r_pop (pc := 1991) C dL_law_1991 rfl ?_
  refine r_aload_n (pc := 1992) C dL_law_1992 2 rfl ?_
  refine r_aload_n (pc := 1993) C dL_law_1993 0 rfl ?_
  refine r_iload (pc := 1994) C dL_law_1994 4 rfl ?_
  refine r_iconst (pc := 1996) C (v := (1 : Int32)) dL_law_1996 (by decide) ?_
  refine r_iadd (pc := 1997) C dL_law_1997 ?_
  refine r_topi (fun x13 ex13 => ?_)
  have h := h x13 ex13
  obtain ⟨i14, h⟩ := h
  refine r_scLd (pc := 1998) C E i14 dL_law_1998 ?_
  refine r_topi (fun x15 ex15 => ?_)
  have h := h x15 ex15
  refine r_aload_n (pc := 1999) C dL_law_1999 0 rfl ?_
  refine r_iload (pc := 2000) C dL_law_2000 4 rfl ?_
  refine r_iconst (pc := 2002) C (v := (2 : Int32)) dL_law_2002 (by decide) ?_
  refine r_iadd (pc := 2003) C dL_law_2003 ?_
  refine r_topi (fun x16 ex16 => ?_)
  have h := h x16 ex16
  obtain ⟨i17, h⟩ := h
  refine r_scLd (pc := 2004) C E i17 dL_law_2004 ?_
  refine r_topi (fun x18 ex18 => ?_)
  have h := h x18 ex18
  refine r_aload_n (pc := 2005) C dL_law_2005 0 rfl ?_
  refine r_iload (pc := 2006) C dL_law_2006 4 rfl ?_
  refine r_iconst (pc := 2008) C (v := (3 : Int32)) dL_law_2008 (by decide) ?_
  refine r_iadd (pc := 2009) C dL_law_2009 ?_
  refine r_topi (fun x19 ex19 => ?_)
  have h := h x19 ex19
  obtain ⟨i20, h⟩ := h
  refine r_scLd (pc := 2010) C E i20 dL_law_2010 ?_
  refine r_topi (fun x21 ex21 => ?_)
  have h := h x21 ex21
  obtain ⟨o_v2, h⟩ := h
  obtain ⟨hk, hk2, h⟩ := h
  refine r_callVi0 (pc := 2011) C (rest := []) (a := v2) o_v2 [.int x15, .int x18, .int x21] yV_X11_go g_1775 (c_X11_go h) dL_law_2011 rfl rfl (Nat.le_of_ble_eq_true rfl) ⟨by decide, by decide⟩ ⟨hk, hk2⟩ ⟨rfl, rfl⟩ (fun x24 S22 h g23 => ?_)
  have h := h g23
  have o_v1 := gr_ob g23 o_v1
  have o_v2 := gr_ob g23 o_v2
  refine r_pop (pc := 2014) C dL_law_2014 rfl ?_
  refine r_goto (pc := 2015) C (tgt := 2341) dL_law_2015 (by decide) ?_
  exact r_sub [0, 1, 2, 3, 4] rfl (T_L_law_2341 C E ht hn hX23 h)
def P_L_law_2018 (scL : Nat) (scx : Nat → Int32) (Q : Int32 → HS → Prop) (X23 : Nat → Nat → Nat → Int32 → Nat → Nat → HS → Prop) (v1 : Nat) (v2 : Nat) (v3 : Nat) (v4 : Int32) (kk : Nat) (nn : Nat) (S : HS) : Prop := ∀ x1 : Int32, x1 = v4 + (1 : Int32) → (vp_in x1 scL ∧ ∀ x3 : Int32, x3 = scx x1.toNatClampNeg → (ob S v1 9 ∧ (kk ≤ rm_L_law.cells ∧ nn ≤ rm_L_law.slots ∧ (P_X9_stay v1 x3 (fun x6 S4 => Gr S S4 → bl x6 → (∀ x7 : Int32, x7 = v4 + (1 : Int32) → (vp_in x7 scL ∧ ∀ x9 : Int32, x9 = scx x7.toNatClampNeg → (ob S4 v2 11 ∧ (kk ≤ rm_L_law.cells ∧ nn ≤ rm_L_law.slots ∧ (P_X11_stay v2 x9 (fun x12 S10 => Gr S4 S10 → bl x12 → (P_L_law_2341 scL scx Q X23 v1 v2 v3 v4 kk nn S10)) S4)))))) S))))
set_option maxRecDepth 20000 in
set_option maxHeartbeats 4000000 in
theorem T_L_law_2018 {X : CX} {Q : Int32 → HS → Prop} {scb scL : Nat} {scx : Nat → Int32} (C : Cx X cL_law RL 7 rm_L_law) (E : LE X scb scL scx Q) (ht : LD X) (hn : True) {X23 : Nat → Nat → Nat → Int32 → Nat → Nat → HS → Prop} (hX23 : ∀ (v1 : Nat) (v2 : Nat) (v3 : Nat) (v4 : Int32) (kk : Nat) (nn : Nat) (S : HS), X23 v1 v2 v3 v4 kk nn S → WS X 7 kk nn 23 [(0, .ref scb), (1, .ref v1), (2, .ref v2), (3, .ref v3), (4, .int v4)] [] S) {v1 : Nat} {v2 : Nat} {v3 : Nat} {v4 : Int32} {kk : Nat} {nn : Nat} {S : HS} (h : P_L_law_2018 scL scx Q X23 v1 v2 v3 v4 kk nn S) : WS X 7 kk nn 2018 [(0, .ref scb), (1, .ref v1), (2, .ref v2), (3, .ref v3), (4, .int v4)] [] S := by
  refine r_aload_n (pc := 2018) C dL_law_2018 1 rfl ?_
  refine r_aload_n (pc := 2019) C dL_law_2019 0 rfl ?_
  refine r_iload (pc := 2020) C dL_law_2020 4 rfl ?_
  refine r_iconst (pc := 2022) C (v := (1 : Int32)) dL_law_2022 (by decide) ?_
  refine r_iadd (pc := 2023) C dL_law_2023 ?_
  refine r_topi (fun x1 ex1 => ?_)
  have h := h x1 ex1
  obtain ⟨i2, h⟩ := h
  refine r_scLd (pc := 2024) C E i2 dL_law_2024 ?_
  refine r_topi (fun x3 ex3 => ?_)
  have h := h x3 ex3
  obtain ⟨o_v1, h⟩ := h
  obtain ⟨hk, hk2, h⟩ := h
  refine r_callVi0 (pc := 2025) C (rest := []) (a := v1) o_v1 [.int x3] yV_X9_stay g_1004 (c_X9_stay h) dL_law_2025 rfl rfl (Nat.le_of_ble_eq_true rfl) ⟨by decide, by decide⟩ ⟨hk, hk2⟩ ⟨rfl, rfl⟩ (fun x6 S4 h g5 => ?_)
  have bx6 := h.1
  have h := h.2 g5 bx6
  have o_v1 := gr_ob g5 o_v1
  refine r_pop (pc := 2028) C dL_law_2028 rfl ?_
  refine r_aload_n (pc := 2029) C dL_law_2029 2 rfl ?_
  refine r_aload_n (pc := 2030) C dL_law_2030 0 rfl ?_
  refine r_iload (pc := 2031) C dL_law_2031 4 rfl ?_
  refine r_iconst (pc := 2033) C (v := (1 : Int32)) dL_law_2033 (by decide) ?_
  refine r_iadd (pc := 2034) C dL_law_2034 ?_
  refine r_topi (fun x7 ex7 => ?_)
  have h := h x7 ex7
  obtain ⟨i8, h⟩ := h
  refine r_scLd (pc := 2035) C E i8 dL_law_2035 ?_
  refine r_topi (fun x9 ex9 => ?_)
  have h := h x9 ex9
  obtain ⟨o_v2, h⟩ := h
  obtain ⟨hk, hk2, h⟩ := h
  refine r_callVi0 (pc := 2036) C (rest := []) (a := v2) o_v2 [.int x9] yV_X11_stay g_1791 (c_X11_stay h) dL_law_2036 rfl rfl (Nat.le_of_ble_eq_true rfl) ⟨by decide, by decide⟩ ⟨hk, hk2⟩ ⟨rfl, rfl⟩ (fun x12 S10 h g11 => ?_)
  have bx12 := h.1
  have h := h.2 g11 bx12
  have o_v1 := gr_ob g11 o_v1
  have o_v2 := gr_ob g11 o_v2
  refine r_pop (pc := 2039) C dL_law_2039 rfl ?_
  refine r_goto (pc := 2040) C (tgt := 2341) dL_law_2040 (by decide) ?_
  exact r_sub [0, 1, 2, 3, 4] rfl (T_L_law_2341 C E ht hn hX23 h)
def P_L_law_2089 (scL : Nat) (scx : Nat → Int32) (Q : Int32 → HS → Prop) (X23 : Nat → Nat → Nat → Int32 → Nat → Nat → HS → Prop) (v1 : Nat) (v2 : Nat) (v3 : Nat) (v4 : Int32) (s0 : Nat) (s1 : Int32) (s2 : Int32) (kk : Nat) (nn : Nat) (S : HS) : Prop := ob S s0 11 ∧ (kk ≤ rm_L_law.cells ∧ nn ≤ rm_L_law.slots ∧ (P_X11_got s0 s1 s2 (fun x3 S1 => Gr S S1 → (P_L_law_2341 scL scx Q X23 v1 v2 v3 v4 kk nn S1)) S))
set_option maxRecDepth 20000 in
set_option maxHeartbeats 4000000 in
theorem T_L_law_2089 {X : CX} {Q : Int32 → HS → Prop} {scb scL : Nat} {scx : Nat → Int32} (C : Cx X cL_law RL 7 rm_L_law) (E : LE X scb scL scx Q) (ht : LD X) (hn : True) {X23 : Nat → Nat → Nat → Int32 → Nat → Nat → HS → Prop} (hX23 : ∀ (v1 : Nat) (v2 : Nat) (v3 : Nat) (v4 : Int32) (kk : Nat) (nn : Nat) (S : HS), X23 v1 v2 v3 v4 kk nn S → WS X 7 kk nn 23 [(0, .ref scb), (1, .ref v1), (2, .ref v2), (3, .ref v3), (4, .int v4)] [] S) {v1 : Nat} {v2 : Nat} {v3 : Nat} {v4 : Int32} {s0 : Nat} {s1 : Int32} {s2 : Int32} {kk : Nat} {nn : Nat} {S : HS} (h : P_L_law_2089 scL scx Q X23 v1 v2 v3 v4 s0 s1 s2 kk nn S) : WS X 7 kk nn 2089 [(0, .ref scb), (1, .ref v1), (2, .ref v2), (3, .ref v3), (4, .int v4)] [.int s2, .int s1, .ref s0] S := by
  obtain ⟨o_s0, h⟩ := h
  obtain ⟨hk, hk2, h⟩ := h
  refine r_callVl0 (pc := 2089) C (rest := []) (a := s0) o_s0 [.int s1, .int s2] yV_X11_got g_1804 (c_X11_got h) dL_law_2089 rfl rfl (Nat.le_of_ble_eq_true rfl) ⟨by decide, by decide⟩ ⟨hk, hk2⟩ ⟨rfl, rfl⟩ (fun x3 S1 h g2 => ?_)
  have h := h g2
  have o_s0 := gr_ob g2 o_s0
  refine r_pop2 (pc := 2092) C dL_law_2092 rfl ?_
  refine r_goto (pc := 2093) C (tgt := 2341) dL_law_2093 (by decide) ?_
  exact r_sub [0, 1, 2, 3, 4] rfl (T_L_law_2341 C E ht hn hX23 h)
def P_L_law_2064 (scL : Nat) (scx : Nat → Int32) (Q : Int32 → HS → Prop) (X23 : Nat → Nat → Nat → Int32 → Nat → Nat → HS → Prop) (v1 : Nat) (v2 : Nat) (v3 : Nat) (v4 : Int32) (s0 : Nat) (s1 : Int32) (s2 : Int32) (kk : Nat) (nn : Nat) (S : HS) : Prop := ob S s0 9 ∧ (kk ≤ rm_L_law.cells ∧ nn ≤ rm_L_law.slots ∧ (P_X9_got s0 s1 s2 (fun x3 S1 => Gr S S1 → (∀ x4 : Int32, x4 = v4 + (1 : Int32) → (vp_in x4 scL ∧ ∀ x6 : Int32, x6 = scx x4.toNatClampNeg → (∀ x7 : Int32, x7 = v4 + (2 : Int32) → (vp_in x7 scL ∧ ∀ x9 : Int32, x9 = scx x7.toNatClampNeg → (((x9 = 0) → (P_L_law_2089 scL scx Q X23 v1 v2 v3 v4 v2 x6 (0 : Int32) kk nn S1)) ∧ ((¬ x9 = 0) → (P_L_law_2089 scL scx Q X23 v1 v2 v3 v4 v2 x6 (1 : Int32) kk nn S1)))))))) S))
set_option maxRecDepth 20000 in
set_option maxHeartbeats 4000000 in
theorem T_L_law_2064 {X : CX} {Q : Int32 → HS → Prop} {scb scL : Nat} {scx : Nat → Int32} (C : Cx X cL_law RL 7 rm_L_law) (E : LE X scb scL scx Q) (ht : LD X) (hn : True) {X23 : Nat → Nat → Nat → Int32 → Nat → Nat → HS → Prop} (hX23 : ∀ (v1 : Nat) (v2 : Nat) (v3 : Nat) (v4 : Int32) (kk : Nat) (nn : Nat) (S : HS), X23 v1 v2 v3 v4 kk nn S → WS X 7 kk nn 23 [(0, .ref scb), (1, .ref v1), (2, .ref v2), (3, .ref v3), (4, .int v4)] [] S) {v1 : Nat} {v2 : Nat} {v3 : Nat} {v4 : Int32} {s0 : Nat} {s1 : Int32} {s2 : Int32} {kk : Nat} {nn : Nat} {S : HS} (h : P_L_law_2064 scL scx Q X23 v1 v2 v3 v4 s0 s1 s2 kk nn S) : WS X 7 kk nn 2064 [(0, .ref scb), (1, .ref v1), (2, .ref v2), (3, .ref v3), (4, .int v4)] [.int s2, .int s1, .ref s0] S := by
  obtain ⟨o_s0, h⟩ := h
  obtain ⟨hk, hk2, h⟩ := h
  refine r_callVl0 (pc := 2064) C (rest := []) (a := s0) o_s0 [.int s1, .int s2] yV_X9_got g_1014 (c_X9_got h) dL_law_2064 rfl rfl (Nat.le_of_ble_eq_true rfl) ⟨by decide, by decide⟩ ⟨hk, hk2⟩ ⟨rfl, rfl⟩ (fun x3 S1 h g2 => ?_)
  have h := h g2
  have o_s0 := gr_ob g2 o_s0
  refine r_pop2 (pc := 2067) C dL_law_2067 rfl ?_
  refine r_aload_n (pc := 2068) C dL_law_2068 2 rfl ?_
  refine r_aload_n (pc := 2069) C dL_law_2069 0 rfl ?_
  refine r_iload (pc := 2070) C dL_law_2070 4 rfl ?_
  refine r_iconst (pc := 2072) C (v := (1 : Int32)) dL_law_2072 (by decide) ?_
  refine r_iadd (pc := 2073) C dL_law_2073 ?_
  refine r_topi (fun x4 ex4 => ?_)
  have h := h x4 ex4
  obtain ⟨i5, h⟩ := h
  refine r_scLd (pc := 2074) C E i5 dL_law_2074 ?_
  refine r_topi (fun x6 ex6 => ?_)
  have h := h x6 ex6
  refine r_aload_n (pc := 2075) C dL_law_2075 0 rfl ?_
  refine r_iload (pc := 2076) C dL_law_2076 4 rfl ?_
  refine r_iconst (pc := 2078) C (v := (2 : Int32)) dL_law_2078 (by decide) ?_
  refine r_iadd (pc := 2079) C dL_law_2079 ?_
  refine r_topi (fun x7 ex7 => ?_)
  have h := h x7 ex7
  obtain ⟨i8, h⟩ := h
  refine r_scLd (pc := 2080) C E i8 dL_law_2080 ?_
  refine r_topi (fun x9 ex9 => ?_)
  have h := h x9 ex9
  refine r_if_eq (pc := 2081) C (tgt := 2088) dL_law_2081 (by decide) (fun c10 => ?_) (fun c10 => ?_)
  · have h := h.1 c10
    refine r_iconst (pc := 2088) C (v := (0 : Int32)) dL_law_2088 (by decide) ?_
    exact r_sub [0, 1, 2, 3, 4] rfl (T_L_law_2089 C E ht hn hX23 h)
  · have h := h.2 c10
    refine r_iconst (pc := 2084) C (v := (1 : Int32)) dL_law_2084 (by decide) ?_
    refine r_goto (pc := 2085) C (tgt := 2089) dL_law_2085 (by decide) ?_
    exact r_sub [0, 1, 2, 3, 4] rfl (T_L_law_2089 C E ht hn hX23 h)
def P_L_law_2043 (scL : Nat) (scx : Nat → Int32) (Q : Int32 → HS → Prop) (X23 : Nat → Nat → Nat → Int32 → Nat → Nat → HS → Prop) (v1 : Nat) (v2 : Nat) (v3 : Nat) (v4 : Int32) (kk : Nat) (nn : Nat) (S : HS) : Prop := ∀ x1 : Int32, x1 = v4 + (1 : Int32) → (vp_in x1 scL ∧ ∀ x3 : Int32, x3 = scx x1.toNatClampNeg → (∀ x4 : Int32, x4 = v4 + (2 : Int32) → (vp_in x4 scL ∧ ∀ x6 : Int32, x6 = scx x4.toNatClampNeg → (((x6 = 0) → (P_L_law_2064 scL scx Q X23 v1 v2 v3 v4 v1 x3 (0 : Int32) kk nn S)) ∧ ((¬ x6 = 0) → (P_L_law_2064 scL scx Q X23 v1 v2 v3 v4 v1 x3 (1 : Int32) kk nn S))))))
set_option maxRecDepth 20000 in
set_option maxHeartbeats 4000000 in
theorem T_L_law_2043 {X : CX} {Q : Int32 → HS → Prop} {scb scL : Nat} {scx : Nat → Int32} (C : Cx X cL_law RL 7 rm_L_law) (E : LE X scb scL scx Q) (ht : LD X) (hn : True) {X23 : Nat → Nat → Nat → Int32 → Nat → Nat → HS → Prop} (hX23 : ∀ (v1 : Nat) (v2 : Nat) (v3 : Nat) (v4 : Int32) (kk : Nat) (nn : Nat) (S : HS), X23 v1 v2 v3 v4 kk nn S → WS X 7 kk nn 23 [(0, .ref scb), (1, .ref v1), (2, .ref v2), (3, .ref v3), (4, .int v4)] [] S) {v1 : Nat} {v2 : Nat} {v3 : Nat} {v4 : Int32} {kk : Nat} {nn : Nat} {S : HS} (h : P_L_law_2043 scL scx Q X23 v1 v2 v3 v4 kk nn S) : WS X 7 kk nn 2043 [(0, .ref scb), (1, .ref v1), (2, .ref v2), (3, .ref v3), (4, .int v4)] [] S := by
  refine r_aload_n (pc := 2043) C dL_law_2043 1 rfl ?_
  refine r_aload_n (pc := 2044) C dL_law_2044 0 rfl ?_
  refine r_iload (pc := 2045) C dL_law_2045 4 rfl ?_
  refine r_iconst (pc := 2047) C (v := (1 : Int32)) dL_law_2047 (by decide) ?_
  refine r_iadd (pc := 2048) C dL_law_2048 ?_
  refine r_topi (fun x1 ex1 => ?_)
  have h := h x1 ex1
  obtain ⟨i2, h⟩ := h
  refine r_scLd (pc := 2049) C E i2 dL_law_2049 ?_
  refine r_topi (fun x3 ex3 => ?_)
  have h := h x3 ex3
  refine r_aload_n (pc := 2050) C dL_law_2050 0 rfl ?_
  refine r_iload (pc := 2051) C dL_law_2051 4 rfl ?_
  refine r_iconst (pc := 2053) C (v := (2 : Int32)) dL_law_2053 (by decide) ?_
  refine r_iadd (pc := 2054) C dL_law_2054 ?_
  refine r_topi (fun x4 ex4 => ?_)
  have h := h x4 ex4
  obtain ⟨i5, h⟩ := h
  refine r_scLd (pc := 2055) C E i5 dL_law_2055 ?_
  refine r_topi (fun x6 ex6 => ?_)
  have h := h x6 ex6
  refine r_if_eq (pc := 2056) C (tgt := 2063) dL_law_2056 (by decide) (fun c7 => ?_) (fun c7 => ?_)
  · have h := h.1 c7
    refine r_iconst (pc := 2063) C (v := (0 : Int32)) dL_law_2063 (by decide) ?_
    exact r_sub [0, 1, 2, 3, 4] rfl (T_L_law_2064 C E ht hn hX23 h)
  · have h := h.2 c7
    refine r_iconst (pc := 2059) C (v := (1 : Int32)) dL_law_2059 (by decide) ?_
    refine r_goto (pc := 2060) C (tgt := 2064) dL_law_2060 (by decide) ?_
    exact r_sub [0, 1, 2, 3, 4] rfl (T_L_law_2064 C E ht hn hX23 h)
def P_L_law_2130 (scL : Nat) (scx : Nat → Int32) (Q : Int32 → HS → Prop) (X23 : Nat → Nat → Nat → Int32 → Nat → Nat → HS → Prop) (v1 : Nat) (v2 : Nat) (v3 : Nat) (v4 : Int32) (s0 : Nat) (s1 : Int32) (kk : Nat) (nn : Nat) (S : HS) : Prop := ob S s0 11 ∧ (kk ≤ rm_L_law.cells ∧ nn ≤ rm_L_law.slots ∧ (P_X11_wetness s0 s1 (fun x3 S1 => Gr S S1 → (P_L_law_2341 scL scx Q X23 v1 v2 v3 v4 kk nn S1)) S))
set_option maxRecDepth 20000 in
set_option maxHeartbeats 4000000 in
theorem T_L_law_2130 {X : CX} {Q : Int32 → HS → Prop} {scb scL : Nat} {scx : Nat → Int32} (C : Cx X cL_law RL 7 rm_L_law) (E : LE X scb scL scx Q) (ht : LD X) (hn : True) {X23 : Nat → Nat → Nat → Int32 → Nat → Nat → HS → Prop} (hX23 : ∀ (v1 : Nat) (v2 : Nat) (v3 : Nat) (v4 : Int32) (kk : Nat) (nn : Nat) (S : HS), X23 v1 v2 v3 v4 kk nn S → WS X 7 kk nn 23 [(0, .ref scb), (1, .ref v1), (2, .ref v2), (3, .ref v3), (4, .int v4)] [] S) {v1 : Nat} {v2 : Nat} {v3 : Nat} {v4 : Int32} {s0 : Nat} {s1 : Int32} {kk : Nat} {nn : Nat} {S : HS} (h : P_L_law_2130 scL scx Q X23 v1 v2 v3 v4 s0 s1 kk nn S) : WS X 7 kk nn 2130 [(0, .ref scb), (1, .ref v1), (2, .ref v2), (3, .ref v3), (4, .int v4)] [.int s1, .ref s0] S := by
  obtain ⟨o_s0, h⟩ := h
  obtain ⟨hk, hk2, h⟩ := h
  refine r_callVl0 (pc := 2130) C (rest := []) (a := s0) o_s0 [.int s1] yV_X11_wetness g_1808 (c_X11_wetness h) dL_law_2130 rfl rfl (Nat.le_of_ble_eq_true rfl) ⟨by decide, by decide⟩ ⟨hk, hk2⟩ ⟨rfl, rfl⟩ (fun x3 S1 h g2 => ?_)
  have h := h g2
  have o_s0 := gr_ob g2 o_s0
  refine r_pop2 (pc := 2133) C dL_law_2133 rfl ?_
  refine r_goto (pc := 2134) C (tgt := 2341) dL_law_2134 (by decide) ?_
  exact r_sub [0, 1, 2, 3, 4] rfl (T_L_law_2341 C E ht hn hX23 h)
def P_L_law_2111 (scL : Nat) (scx : Nat → Int32) (Q : Int32 → HS → Prop) (X23 : Nat → Nat → Nat → Int32 → Nat → Nat → HS → Prop) (v1 : Nat) (v2 : Nat) (v3 : Nat) (v4 : Int32) (s0 : Nat) (s1 : Int32) (kk : Nat) (nn : Nat) (S : HS) : Prop := ob S s0 9 ∧ (kk ≤ rm_L_law.cells ∧ nn ≤ rm_L_law.slots ∧ (P_X9_wetness s0 s1 (fun x3 S1 => Gr S S1 → (∀ x4 : Int32, x4 = v4 + (1 : Int32) → (vp_in x4 scL ∧ ∀ x6 : Int32, x6 = scx x4.toNatClampNeg → (((x6 = 0) → (P_L_law_2130 scL scx Q X23 v1 v2 v3 v4 v2 (0 : Int32) kk nn S1)) ∧ ((¬ x6 = 0) → (P_L_law_2130 scL scx Q X23 v1 v2 v3 v4 v2 (1 : Int32) kk nn S1)))))) S))
set_option maxRecDepth 20000 in
set_option maxHeartbeats 4000000 in
theorem T_L_law_2111 {X : CX} {Q : Int32 → HS → Prop} {scb scL : Nat} {scx : Nat → Int32} (C : Cx X cL_law RL 7 rm_L_law) (E : LE X scb scL scx Q) (ht : LD X) (hn : True) {X23 : Nat → Nat → Nat → Int32 → Nat → Nat → HS → Prop} (hX23 : ∀ (v1 : Nat) (v2 : Nat) (v3 : Nat) (v4 : Int32) (kk : Nat) (nn : Nat) (S : HS), X23 v1 v2 v3 v4 kk nn S → WS X 7 kk nn 23 [(0, .ref scb), (1, .ref v1), (2, .ref v2), (3, .ref v3), (4, .int v4)] [] S) {v1 : Nat} {v2 : Nat} {v3 : Nat} {v4 : Int32} {s0 : Nat} {s1 : Int32} {kk : Nat} {nn : Nat} {S : HS} (h : P_L_law_2111 scL scx Q X23 v1 v2 v3 v4 s0 s1 kk nn S) : WS X 7 kk nn 2111 [(0, .ref scb), (1, .ref v1), (2, .ref v2), (3, .ref v3), (4, .int v4)] [.int s1, .ref s0] S := by
  obtain ⟨o_s0, h⟩ := h
  obtain ⟨hk, hk2, h⟩ := h
  refine r_callVl0 (pc := 2111) C (rest := []) (a := s0) o_s0 [.int s1] yV_X9_wetness g_1018 (c_X9_wetness h) dL_law_2111 rfl rfl (Nat.le_of_ble_eq_true rfl) ⟨by decide, by decide⟩ ⟨hk, hk2⟩ ⟨rfl, rfl⟩ (fun x3 S1 h g2 => ?_)
  have h := h g2
  have o_s0 := gr_ob g2 o_s0
  refine r_pop2 (pc := 2114) C dL_law_2114 rfl ?_
  refine r_aload_n (pc := 2115) C dL_law_2115 2 rfl ?_
  refine r_aload_n (pc := 2116) C dL_law_2116 0 rfl ?_
  refine r_iload (pc := 2117) C dL_law_2117 4 rfl ?_
  refine r_iconst (pc := 2119) C (v := (1 : Int32)) dL_law_2119 (by decide) ?_
  refine r_iadd (pc := 2120) C dL_law_2120 ?_
  refine r_topi (fun x4 ex4 => ?_)
  have h := h x4 ex4
  obtain ⟨i5, h⟩ := h
  refine r_scLd (pc := 2121) C E i5 dL_law_2121 ?_
  refine r_topi (fun x6 ex6 => ?_)
  have h := h x6 ex6
  refine r_if_eq (pc := 2122) C (tgt := 2129) dL_law_2122 (by decide) (fun c7 => ?_) (fun c7 => ?_)
  · have h := h.1 c7
    refine r_iconst (pc := 2129) C (v := (0 : Int32)) dL_law_2129 (by decide) ?_
    exact r_sub [0, 1, 2, 3, 4] rfl (T_L_law_2130 C E ht hn hX23 h)
  · have h := h.2 c7
    refine r_iconst (pc := 2125) C (v := (1 : Int32)) dL_law_2125 (by decide) ?_
    refine r_goto (pc := 2126) C (tgt := 2130) dL_law_2126 (by decide) ?_
    exact r_sub [0, 1, 2, 3, 4] rfl (T_L_law_2130 C E ht hn hX23 h)
def P_L_law_2096 (scL : Nat) (scx : Nat → Int32) (Q : Int32 → HS → Prop) (X23 : Nat → Nat → Nat → Int32 → Nat → Nat → HS → Prop) (v1 : Nat) (v2 : Nat) (v3 : Nat) (v4 : Int32) (kk : Nat) (nn : Nat) (S : HS) : Prop := ∀ x1 : Int32, x1 = v4 + (1 : Int32) → (vp_in x1 scL ∧ ∀ x3 : Int32, x3 = scx x1.toNatClampNeg → (((x3 = 0) → (P_L_law_2111 scL scx Q X23 v1 v2 v3 v4 v1 (0 : Int32) kk nn S)) ∧ ((¬ x3 = 0) → (P_L_law_2111 scL scx Q X23 v1 v2 v3 v4 v1 (1 : Int32) kk nn S))))
set_option maxRecDepth 20000 in
set_option maxHeartbeats 4000000 in
theorem T_L_law_2096 {X : CX} {Q : Int32 → HS → Prop} {scb scL : Nat} {scx : Nat → Int32} (C : Cx X cL_law RL 7 rm_L_law) (E : LE X scb scL scx Q) (ht : LD X) (hn : True) {X23 : Nat → Nat → Nat → Int32 → Nat → Nat → HS → Prop} (hX23 : ∀ (v1 : Nat) (v2 : Nat) (v3 : Nat) (v4 : Int32) (kk : Nat) (nn : Nat) (S : HS), X23 v1 v2 v3 v4 kk nn S → WS X 7 kk nn 23 [(0, .ref scb), (1, .ref v1), (2, .ref v2), (3, .ref v3), (4, .int v4)] [] S) {v1 : Nat} {v2 : Nat} {v3 : Nat} {v4 : Int32} {kk : Nat} {nn : Nat} {S : HS} (h : P_L_law_2096 scL scx Q X23 v1 v2 v3 v4 kk nn S) : WS X 7 kk nn 2096 [(0, .ref scb), (1, .ref v1), (2, .ref v2), (3, .ref v3), (4, .int v4)] [] S := by
  refine r_aload_n (pc := 2096) C dL_law_2096 1 rfl ?_
  refine r_aload_n (pc := 2097) C dL_law_2097 0 rfl ?_
  refine r_iload (pc := 2098) C dL_law_2098 4 rfl ?_
  refine r_iconst (pc := 2100) C (v := (1 : Int32)) dL_law_2100 (by decide) ?_
  refine r_iadd (pc := 2101) C dL_law_2101 ?_
  refine r_topi (fun x1 ex1 => ?_)
  have h := h x1 ex1
  obtain ⟨i2, h⟩ := h
  refine r_scLd (pc := 2102) C E i2 dL_law_2102 ?_
  refine r_topi (fun x3 ex3 => ?_)
  have h := h x3 ex3
  refine r_if_eq (pc := 2103) C (tgt := 2110) dL_law_2103 (by decide) (fun c4 => ?_) (fun c4 => ?_)
  · have h := h.1 c4
    refine r_iconst (pc := 2110) C (v := (0 : Int32)) dL_law_2110 (by decide) ?_
    exact r_sub [0, 1, 2, 3, 4] rfl (T_L_law_2111 C E ht hn hX23 h)
  · have h := h.2 c4
    refine r_iconst (pc := 2106) C (v := (1 : Int32)) dL_law_2106 (by decide) ?_
    refine r_goto (pc := 2107) C (tgt := 2111) dL_law_2107 (by decide) ?_
    exact r_sub [0, 1, 2, 3, 4] rfl (T_L_law_2111 C E ht hn hX23 h)
def P_L_law_2137 (scL : Nat) (scx : Nat → Int32) (Q : Int32 → HS → Prop) (X23 : Nat → Nat → Nat → Int32 → Nat → Nat → HS → Prop) (v1 : Nat) (v2 : Nat) (v3 : Nat) (v4 : Int32) (kk : Nat) (nn : Nat) (S : HS) : Prop := ob S v1 9 ∧ (kk ≤ rm_L_law.cells ∧ nn ≤ rm_L_law.slots ∧ (P_X9_soaked v1 (fun x3 S1 => Gr S S1 → (ob S1 v2 11 ∧ (kk ≤ rm_L_law.cells ∧ nn ≤ rm_L_law.slots ∧ (P_X11_soaked v2 (fun x6 S4 => Gr S1 S4 → (P_L_law_2341 scL scx Q X23 v1 v2 v3 v4 kk nn S4)) S1)))) S))
set_option maxRecDepth 20000 in
set_option maxHeartbeats 4000000 in
theorem T_L_law_2137 {X : CX} {Q : Int32 → HS → Prop} {scb scL : Nat} {scx : Nat → Int32} (C : Cx X cL_law RL 7 rm_L_law) (E : LE X scb scL scx Q) (ht : LD X) (hn : True) {X23 : Nat → Nat → Nat → Int32 → Nat → Nat → HS → Prop} (hX23 : ∀ (v1 : Nat) (v2 : Nat) (v3 : Nat) (v4 : Int32) (kk : Nat) (nn : Nat) (S : HS), X23 v1 v2 v3 v4 kk nn S → WS X 7 kk nn 23 [(0, .ref scb), (1, .ref v1), (2, .ref v2), (3, .ref v3), (4, .int v4)] [] S) {v1 : Nat} {v2 : Nat} {v3 : Nat} {v4 : Int32} {kk : Nat} {nn : Nat} {S : HS} (h : P_L_law_2137 scL scx Q X23 v1 v2 v3 v4 kk nn S) : WS X 7 kk nn 2137 [(0, .ref scb), (1, .ref v1), (2, .ref v2), (3, .ref v3), (4, .int v4)] [] S := by
  refine r_aload_n (pc := 2137) C dL_law_2137 1 rfl ?_
  obtain ⟨o_v1, h⟩ := h
  obtain ⟨hk, hk2, h⟩ := h
  refine r_callVi0 (pc := 2138) C (rest := []) (a := v1) o_v1 [] yV_X9_soaked g_1032 (c_X9_soaked h) dL_law_2138 rfl rfl (Nat.le_of_ble_eq_true rfl) ⟨by decide, by decide⟩ ⟨hk, hk2⟩ ⟨rfl, rfl⟩ (fun x3 S1 h g2 => ?_)
  have h := h g2
  have o_v1 := gr_ob g2 o_v1
  refine r_pop (pc := 2141) C dL_law_2141 rfl ?_
  refine r_aload_n (pc := 2142) C dL_law_2142 2 rfl ?_
  obtain ⟨o_v2, h⟩ := h
  obtain ⟨hk, hk2, h⟩ := h
  refine r_callVi0 (pc := 2143) C (rest := []) (a := v2) o_v2 [] yV_X11_soaked g_1820 (c_X11_soaked h) dL_law_2143 rfl rfl (Nat.le_of_ble_eq_true rfl) ⟨by decide, by decide⟩ ⟨hk, hk2⟩ ⟨rfl, rfl⟩ (fun x6 S4 h g5 => ?_)
  have h := h g5
  have o_v1 := gr_ob g5 o_v1
  have o_v2 := gr_ob g5 o_v2
  refine r_pop (pc := 2146) C dL_law_2146 rfl ?_
  refine r_goto (pc := 2147) C (tgt := 2341) dL_law_2147 (by decide) ?_
  exact r_sub [0, 1, 2, 3, 4] rfl (T_L_law_2341 C E ht hn hX23 h)
def P_L_law_2150 (scL : Nat) (scx : Nat → Int32) (Q : Int32 → HS → Prop) (X23 : Nat → Nat → Nat → Int32 → Nat → Nat → HS → Prop) (v1 : Nat) (v2 : Nat) (v3 : Nat) (v4 : Int32) (kk : Nat) (nn : Nat) (S : HS) : Prop := ob S v1 9 ∧ (kk ≤ rm_L_law.cells ∧ nn ≤ rm_L_law.slots ∧ (P_X9_undo v1 (fun x3 S1 => Gr S S1 → bl x3 → (ob S1 v2 11 ∧ (kk ≤ rm_L_law.cells ∧ nn ≤ rm_L_law.slots ∧ (P_X11_undo v2 (fun x6 S4 => Gr S1 S4 → bl x6 → (P_L_law_2341 scL scx Q X23 v1 v2 v3 v4 kk nn S4)) S1)))) S))
set_option maxRecDepth 20000 in
set_option maxHeartbeats 4000000 in
theorem T_L_law_2150 {X : CX} {Q : Int32 → HS → Prop} {scb scL : Nat} {scx : Nat → Int32} (C : Cx X cL_law RL 7 rm_L_law) (E : LE X scb scL scx Q) (ht : LD X) (hn : True) {X23 : Nat → Nat → Nat → Int32 → Nat → Nat → HS → Prop} (hX23 : ∀ (v1 : Nat) (v2 : Nat) (v3 : Nat) (v4 : Int32) (kk : Nat) (nn : Nat) (S : HS), X23 v1 v2 v3 v4 kk nn S → WS X 7 kk nn 23 [(0, .ref scb), (1, .ref v1), (2, .ref v2), (3, .ref v3), (4, .int v4)] [] S) {v1 : Nat} {v2 : Nat} {v3 : Nat} {v4 : Int32} {kk : Nat} {nn : Nat} {S : HS} (h : P_L_law_2150 scL scx Q X23 v1 v2 v3 v4 kk nn S) : WS X 7 kk nn 2150 [(0, .ref scb), (1, .ref v1), (2, .ref v2), (3, .ref v3), (4, .int v4)] [] S := by
  refine r_aload_n (pc := 2150) C dL_law_2150 1 rfl ?_
  obtain ⟨o_v1, h⟩ := h
  obtain ⟨hk, hk2, h⟩ := h
  refine r_callVi0 (pc := 2151) C (rest := []) (a := v1) o_v1 [] yV_X9_undo g_1036 (c_X9_undo h) dL_law_2151 rfl rfl (Nat.le_of_ble_eq_true rfl) ⟨by decide, by decide⟩ ⟨hk, hk2⟩ ⟨rfl, rfl⟩ (fun x3 S1 h g2 => ?_)
  have bx3 := h.1
  have h := h.2 g2 bx3
  have o_v1 := gr_ob g2 o_v1
  refine r_pop (pc := 2154) C dL_law_2154 rfl ?_
  refine r_aload_n (pc := 2155) C dL_law_2155 2 rfl ?_
  obtain ⟨o_v2, h⟩ := h
  obtain ⟨hk, hk2, h⟩ := h
  refine r_callVi0 (pc := 2156) C (rest := []) (a := v2) o_v2 [] yV_X11_undo g_1824 (c_X11_undo h) dL_law_2156 rfl rfl (Nat.le_of_ble_eq_true rfl) ⟨by decide, by decide⟩ ⟨hk, hk2⟩ ⟨rfl, rfl⟩ (fun x6 S4 h g5 => ?_)
  have bx6 := h.1
  have h := h.2 g5 bx6
  have o_v1 := gr_ob g5 o_v1
  have o_v2 := gr_ob g5 o_v2
  refine r_pop (pc := 2159) C dL_law_2159 rfl ?_
  refine r_goto (pc := 2160) C (tgt := 2341) dL_law_2160 (by decide) ?_
  exact r_sub [0, 1, 2, 3, 4] rfl (T_L_law_2341 C E ht hn hX23 h)
def P_L_law_2163 (scL : Nat) (scx : Nat → Int32) (Q : Int32 → HS → Prop) (X23 : Nat → Nat → Nat → Int32 → Nat → Nat → HS → Prop) (v1 : Nat) (v2 : Nat) (v3 : Nat) (v4 : Int32) (kk : Nat) (nn : Nat) (S : HS) : Prop := ob S v1 9 ∧ (kk ≤ rm_L_law.cells ∧ nn ≤ rm_L_law.slots ∧ (P_X9_mark v1 (fun x3 S1 => Gr S S1 → (ob S1 v2 11 ∧ (kk ≤ rm_L_law.cells ∧ nn ≤ rm_L_law.slots ∧ (P_X11_mark v2 (fun x6 S4 => Gr S1 S4 → (P_L_law_2341 scL scx Q X23 v1 v2 v3 v4 kk nn S4)) S1)))) S))
set_option maxRecDepth 20000 in
set_option maxHeartbeats 4000000 in
theorem T_L_law_2163 {X : CX} {Q : Int32 → HS → Prop} {scb scL : Nat} {scx : Nat → Int32} (C : Cx X cL_law RL 7 rm_L_law) (E : LE X scb scL scx Q) (ht : LD X) (hn : True) {X23 : Nat → Nat → Nat → Int32 → Nat → Nat → HS → Prop} (hX23 : ∀ (v1 : Nat) (v2 : Nat) (v3 : Nat) (v4 : Int32) (kk : Nat) (nn : Nat) (S : HS), X23 v1 v2 v3 v4 kk nn S → WS X 7 kk nn 23 [(0, .ref scb), (1, .ref v1), (2, .ref v2), (3, .ref v3), (4, .int v4)] [] S) {v1 : Nat} {v2 : Nat} {v3 : Nat} {v4 : Int32} {kk : Nat} {nn : Nat} {S : HS} (h : P_L_law_2163 scL scx Q X23 v1 v2 v3 v4 kk nn S) : WS X 7 kk nn 2163 [(0, .ref scb), (1, .ref v1), (2, .ref v2), (3, .ref v3), (4, .int v4)] [] S := by
  refine r_aload_n (pc := 2163) C dL_law_2163 1 rfl ?_
  obtain ⟨o_v1, h⟩ := h
  obtain ⟨hk, hk2, h⟩ := h
  refine r_callVi0 (pc := 2164) C (rest := []) (a := v1) o_v1 [] yV_X9_mark g_1044 (c_X9_mark h) dL_law_2164 rfl rfl (Nat.le_of_ble_eq_true rfl) ⟨by decide, by decide⟩ ⟨hk, hk2⟩ ⟨rfl, rfl⟩ (fun x3 S1 h g2 => ?_)
  have h := h g2
  have o_v1 := gr_ob g2 o_v1
  refine r_pop (pc := 2167) C dL_law_2167 rfl ?_
  refine r_aload_n (pc := 2168) C dL_law_2168 2 rfl ?_
  obtain ⟨o_v2, h⟩ := h
  obtain ⟨hk, hk2, h⟩ := h
  refine r_callVi0 (pc := 2169) C (rest := []) (a := v2) o_v2 [] yV_X11_mark g_1828 (c_X11_mark h) dL_law_2169 rfl rfl (Nat.le_of_ble_eq_true rfl) ⟨by decide, by decide⟩ ⟨hk, hk2⟩ ⟨rfl, rfl⟩ (fun x6 S4 h g5 => ?_)
  have h := h g5
  have o_v1 := gr_ob g5 o_v1
  have o_v2 := gr_ob g5 o_v2
  refine r_pop (pc := 2172) C dL_law_2172 rfl ?_
  refine r_goto (pc := 2173) C (tgt := 2341) dL_law_2173 (by decide) ?_
  exact r_sub [0, 1, 2, 3, 4] rfl (T_L_law_2341 C E ht hn hX23 h)
def P_L_law_2176 (scL : Nat) (scx : Nat → Int32) (Q : Int32 → HS → Prop) (X23 : Nat → Nat → Nat → Int32 → Nat → Nat → HS → Prop) (v1 : Nat) (v2 : Nat) (v3 : Nat) (v4 : Int32) (kk : Nat) (nn : Nat) (S : HS) : Prop := ∀ x1 : Int32, x1 = v4 + (1 : Int32) → (vp_in x1 scL ∧ ∀ x3 : Int32, x3 = scx x1.toNatClampNeg → (ob S v1 9 ∧ (kk ≤ rm_L_law.cells ∧ nn ≤ rm_L_law.slots ∧ (P_X9_back v1 x3 (fun x6 S4 => Gr S S4 → bl x6 → (∀ x7 : Int32, x7 = v4 + (1 : Int32) → (vp_in x7 scL ∧ ∀ x9 : Int32, x9 = scx x7.toNatClampNeg → (ob S4 v2 11 ∧ (kk ≤ rm_L_law.cells ∧ nn ≤ rm_L_law.slots ∧ (P_X11_back v2 x9 (fun x12 S10 => Gr S4 S10 → bl x12 → (((x6 = x12) → (P_L_law_2341 scL scx Q X23 v1 v2 v3 v4 kk nn S10)) ∧ ((¬ x6 = x12) → (kk ≤ rm_L_law.cells ∧ nn ≤ rm_L_law.slots ∧ (0 : Int32) = 1 ∧ Q (0 : Int32) S10)))) S4)))))) S))))
set_option maxRecDepth 20000 in
set_option maxHeartbeats 4000000 in
theorem T_L_law_2176 {X : CX} {Q : Int32 → HS → Prop} {scb scL : Nat} {scx : Nat → Int32} (C : Cx X cL_law RL 7 rm_L_law) (E : LE X scb scL scx Q) (ht : LD X) (hn : True) {X23 : Nat → Nat → Nat → Int32 → Nat → Nat → HS → Prop} (hX23 : ∀ (v1 : Nat) (v2 : Nat) (v3 : Nat) (v4 : Int32) (kk : Nat) (nn : Nat) (S : HS), X23 v1 v2 v3 v4 kk nn S → WS X 7 kk nn 23 [(0, .ref scb), (1, .ref v1), (2, .ref v2), (3, .ref v3), (4, .int v4)] [] S) {v1 : Nat} {v2 : Nat} {v3 : Nat} {v4 : Int32} {kk : Nat} {nn : Nat} {S : HS} (h : P_L_law_2176 scL scx Q X23 v1 v2 v3 v4 kk nn S) : WS X 7 kk nn 2176 [(0, .ref scb), (1, .ref v1), (2, .ref v2), (3, .ref v3), (4, .int v4)] [] S := by
  refine r_aload_n (pc := 2176) C dL_law_2176 1 rfl ?_
  refine r_aload_n (pc := 2177) C dL_law_2177 0 rfl ?_
  refine r_iload (pc := 2178) C dL_law_2178 4 rfl ?_
  refine r_iconst (pc := 2180) C (v := (1 : Int32)) dL_law_2180 (by decide) ?_
  refine r_iadd (pc := 2181) C dL_law_2181 ?_
  refine r_topi (fun x1 ex1 => ?_)
  have h := h x1 ex1
  obtain ⟨i2, h⟩ := h
  refine r_scLd (pc := 2182) C E i2 dL_law_2182 ?_
  refine r_topi (fun x3 ex3 => ?_)
  have h := h x3 ex3
  obtain ⟨o_v1, h⟩ := h
  obtain ⟨hk, hk2, h⟩ := h
  refine r_callVi0 (pc := 2183) C (rest := []) (a := v1) o_v1 [.int x3] yV_X9_back g_1052 (c_X9_back h) dL_law_2183 rfl rfl (Nat.le_of_ble_eq_true rfl) ⟨by decide, by decide⟩ ⟨hk, hk2⟩ ⟨rfl, rfl⟩ (fun x6 S4 h g5 => ?_)
  have bx6 := h.1
  have h := h.2 g5 bx6
  have o_v1 := gr_ob g5 o_v1
  refine r_aload_n (pc := 2186) C dL_law_2186 2 rfl ?_
  refine r_aload_n (pc := 2187) C dL_law_2187 0 rfl ?_
  refine r_iload (pc := 2188) C dL_law_2188 4 rfl ?_
  refine r_iconst (pc := 2190) C (v := (1 : Int32)) dL_law_2190 (by decide) ?_
  refine r_iadd (pc := 2191) C dL_law_2191 ?_
  refine r_topi (fun x7 ex7 => ?_)
  have h := h x7 ex7
  obtain ⟨i8, h⟩ := h
  refine r_scLd (pc := 2192) C E i8 dL_law_2192 ?_
  refine r_topi (fun x9 ex9 => ?_)
  have h := h x9 ex9
  obtain ⟨o_v2, h⟩ := h
  obtain ⟨hk, hk2, h⟩ := h
  refine r_callVi0 (pc := 2193) C (rest := [.int x6]) (a := v2) o_v2 [.int x9] yV_X11_back g_1832 (c_X11_back h) dL_law_2193 rfl rfl (Nat.le_of_ble_eq_true rfl) ⟨by decide, by decide⟩ ⟨hk, hk2⟩ ⟨rfl, rfl⟩ (fun x12 S10 h g11 => ?_)
  have bx12 := h.1
  have h := h.2 g11 bx12
  have o_v1 := gr_ob g11 o_v1
  have o_v2 := gr_ob g11 o_v2
  refine r_icmp_eq (pc := 2196) C (tgt := 2341) dL_law_2196 (by decide) (fun c13 => ?_) (fun c13 => ?_)
  · have h := h.1 c13
    exact r_sub [0, 1, 2, 3, 4] rfl (T_L_law_2341 C E ht hn hX23 h)
  · have h := h.2 c13
    refine r_iconst (pc := 2199) C (v := (0 : Int32)) dL_law_2199 (by decide) ?_
    obtain ⟨hk, hk2, he, h⟩ := h
    exact r_lawret (pc := 2200) C E dL_law_2200 hk hk2 he
def P_L_law_2201 (scL : Nat) (scx : Nat → Int32) (Q : Int32 → HS → Prop) (X23 : Nat → Nat → Nat → Int32 → Nat → Nat → HS → Prop) (v1 : Nat) (v2 : Nat) (v3 : Nat) (v4 : Int32) (kk : Nat) (nn : Nat) (S : HS) : Prop := ∀ x1 : Int32, x1 = v4 + (1 : Int32) → (vp_in x1 scL ∧ ∀ x3 : Int32, x3 = scx x1.toNatClampNeg → (∀ x4 : Int32, x4 = v4 + (2 : Int32) → (vp_in x4 scL ∧ ∀ x6 : Int32, x6 = scx x4.toNatClampNeg → (ob S v1 9 ∧ (kk ≤ rm_L_law.cells ∧ nn ≤ rm_L_law.slots ∧ (P_X9_walker v1 x3 x6 (fun x9 S7 => Gr S S7 → (∀ x10 : Int32, x10 = v4 + (1 : Int32) → (vp_in x10 scL ∧ ∀ x12 : Int32, x12 = scx x10.toNatClampNeg → (∀ x13 : Int32, x13 = v4 + (2 : Int32) → (vp_in x13 scL ∧ ∀ x15 : Int32, x15 = scx x13.toNatClampNeg → (ob S7 v2 11 ∧ (kk ≤ rm_L_law.cells ∧ nn ≤ rm_L_law.slots ∧ (P_X11_walker v2 x12 x15 (fun x18 S16 => Gr S7 S16 → (P_L_law_2341 scL scx Q X23 v1 v2 v3 v4 kk nn S16)) S7)))))))) S))))))
set_option maxRecDepth 20000 in
set_option maxHeartbeats 4000000 in
theorem T_L_law_2201 {X : CX} {Q : Int32 → HS → Prop} {scb scL : Nat} {scx : Nat → Int32} (C : Cx X cL_law RL 7 rm_L_law) (E : LE X scb scL scx Q) (ht : LD X) (hn : True) {X23 : Nat → Nat → Nat → Int32 → Nat → Nat → HS → Prop} (hX23 : ∀ (v1 : Nat) (v2 : Nat) (v3 : Nat) (v4 : Int32) (kk : Nat) (nn : Nat) (S : HS), X23 v1 v2 v3 v4 kk nn S → WS X 7 kk nn 23 [(0, .ref scb), (1, .ref v1), (2, .ref v2), (3, .ref v3), (4, .int v4)] [] S) {v1 : Nat} {v2 : Nat} {v3 : Nat} {v4 : Int32} {kk : Nat} {nn : Nat} {S : HS} (h : P_L_law_2201 scL scx Q X23 v1 v2 v3 v4 kk nn S) : WS X 7 kk nn 2201 [(0, .ref scb), (1, .ref v1), (2, .ref v2), (3, .ref v3), (4, .int v4)] [] S := by
  refine r_aload_n (pc := 2201) C dL_law_2201 1 rfl ?_
  refine r_aload_n (pc := 2202) C dL_law_2202 0 rfl ?_
  refine r_iload (pc := 2203) C dL_law_2203 4 rfl ?_
  refine r_iconst (pc := 2205) C (v := (1 : Int32)) dL_law_2205 (by decide) ?_
  refine r_iadd (pc := 2206) C dL_law_2206 ?_
  refine r_topi (fun x1 ex1 => ?_)
  have h := h x1 ex1
  obtain ⟨i2, h⟩ := h
  refine r_scLd (pc := 2207) C E i2 dL_law_2207 ?_
  refine r_topi (fun x3 ex3 => ?_)
  have h := h x3 ex3
  refine r_aload_n (pc := 2208) C dL_law_2208 0 rfl ?_
  refine r_iload (pc := 2209) C dL_law_2209 4 rfl ?_
  refine r_iconst (pc := 2211) C (v := (2 : Int32)) dL_law_2211 (by decide) ?_
  refine r_iadd (pc := 2212) C dL_law_2212 ?_
  refine r_topi (fun x4 ex4 => ?_)
  have h := h x4 ex4
  obtain ⟨i5, h⟩ := h
  refine r_scLd (pc := 2213) C E i5 dL_law_2213 ?_
  refine r_topi (fun x6 ex6 => ?_)
  have h := h x6 ex6
  obtain ⟨o_v1, h⟩ := h
  obtain ⟨hk, hk2, h⟩ := h
  refine r_callVi0 (pc := 2214) C (rest := []) (a := v1) o_v1 [.int x3, .int x6] yV_X9_walker g_1060 (c_X9_walker h) dL_law_2214 rfl rfl (Nat.le_of_ble_eq_true rfl) ⟨by decide, by decide⟩ ⟨hk, hk2⟩ ⟨rfl, rfl⟩ (fun x9 S7 h g8 => ?_)
  have h := h g8
  have o_v1 := gr_ob g8 o_v1
  refine r_pop (pc := 2217) C dL_law_2217 rfl ?_
  refine r_aload_n (pc := 2218) C dL_law_2218 2 rfl ?_
  refine r_aload_n (pc := 2219) C dL_law_2219 0 rfl ?_
  refine r_iload (pc := 2220) C dL_law_2220 4 rfl ?_
  refine r_iconst (pc := 2222) C (v := (1 : Int32)) dL_law_2222 (by decide) ?_
  refine r_iadd (pc := 2223) C dL_law_2223 ?_
  refine r_topi (fun x10 ex10 => ?_)
  have h := h x10 ex10
  obtain ⟨i11, h⟩ := h
  refine r_scLd (pc := 2224) C E i11 dL_law_2224 ?_
  refine r_topi (fun x12 ex12 => ?_)
  have h := h x12 ex12
  refine r_aload_n (pc := 2225) C dL_law_2225 0 rfl ?_
  refine r_iload (pc := 2226) C dL_law_2226 4 rfl ?_
  refine r_iconst (pc := 2228) C (v := (2 : Int32)) dL_law_2228 (by decide) ?_
  refine r_iadd (pc := 2229) C dL_law_2229 ?_
  refine r_topi (fun x13 ex13 => ?_)
  have h := h x13 ex13
  obtain ⟨i14, h⟩ := h
  refine r_scLd (pc := 2230) C E i14 dL_law_2230 ?_
  refine r_topi (fun x15 ex15 => ?_)
  have h := h x15 ex15
  obtain ⟨o_v2, h⟩ := h
  obtain ⟨hk, hk2, h⟩ := h
  refine r_callVi0 (pc := 2231) C (rest := []) (a := v2) o_v2 [.int x12, .int x15] yV_X11_walker g_1836 (c_X11_walker h) dL_law_2231 rfl rfl (Nat.le_of_ble_eq_true rfl) ⟨by decide, by decide⟩ ⟨hk, hk2⟩ ⟨rfl, rfl⟩ (fun x18 S16 h g17 => ?_)
  have h := h g17
  have o_v1 := gr_ob g17 o_v1
  have o_v2 := gr_ob g17 o_v2
  refine r_pop (pc := 2234) C dL_law_2234 rfl ?_
  refine r_goto (pc := 2235) C (tgt := 2341) dL_law_2235 (by decide) ?_
  exact r_sub [0, 1, 2, 3, 4] rfl (T_L_law_2341 C E ht hn hX23 h)
def P_L_law_2238 (scL : Nat) (scx : Nat → Int32) (Q : Int32 → HS → Prop) (X23 : Nat → Nat → Nat → Int32 → Nat → Nat → HS → Prop) (v1 : Nat) (v2 : Nat) (v3 : Nat) (v4 : Int32) (kk : Nat) (nn : Nat) (S : HS) : Prop := ∀ x1 : Int32, x1 = v4 + (1 : Int32) → (vp_in x1 scL ∧ ∀ x3 : Int32, x3 = scx x1.toNatClampNeg → (∀ x4 : Int32, x4 = v4 + (2 : Int32) → (vp_in x4 scL ∧ ∀ x6 : Int32, x6 = scx x4.toNatClampNeg → (ob S v1 9 ∧ (kk ≤ rm_L_law.cells ∧ nn ≤ rm_L_law.slots ∧ (P_X9_road v1 x3 x6 (fun x9 S7 => Gr S S7 → (∀ x10 : Int32, x10 = v4 + (1 : Int32) → (vp_in x10 scL ∧ ∀ x12 : Int32, x12 = scx x10.toNatClampNeg → (∀ x13 : Int32, x13 = v4 + (2 : Int32) → (vp_in x13 scL ∧ ∀ x15 : Int32, x15 = scx x13.toNatClampNeg → (ob S7 v2 11 ∧ (kk ≤ rm_L_law.cells ∧ nn ≤ rm_L_law.slots ∧ (P_X11_road v2 x12 x15 (fun x18 S16 => Gr S7 S16 → (P_L_law_2341 scL scx Q X23 v1 v2 v3 v4 kk nn S16)) S7)))))))) S))))))
set_option maxRecDepth 20000 in
set_option maxHeartbeats 4000000 in
theorem T_L_law_2238 {X : CX} {Q : Int32 → HS → Prop} {scb scL : Nat} {scx : Nat → Int32} (C : Cx X cL_law RL 7 rm_L_law) (E : LE X scb scL scx Q) (ht : LD X) (hn : True) {X23 : Nat → Nat → Nat → Int32 → Nat → Nat → HS → Prop} (hX23 : ∀ (v1 : Nat) (v2 : Nat) (v3 : Nat) (v4 : Int32) (kk : Nat) (nn : Nat) (S : HS), X23 v1 v2 v3 v4 kk nn S → WS X 7 kk nn 23 [(0, .ref scb), (1, .ref v1), (2, .ref v2), (3, .ref v3), (4, .int v4)] [] S) {v1 : Nat} {v2 : Nat} {v3 : Nat} {v4 : Int32} {kk : Nat} {nn : Nat} {S : HS} (h : P_L_law_2238 scL scx Q X23 v1 v2 v3 v4 kk nn S) : WS X 7 kk nn 2238 [(0, .ref scb), (1, .ref v1), (2, .ref v2), (3, .ref v3), (4, .int v4)] [] S := by
  refine r_aload_n (pc := 2238) C dL_law_2238 1 rfl ?_
  refine r_aload_n (pc := 2239) C dL_law_2239 0 rfl ?_
  refine r_iload (pc := 2240) C dL_law_2240 4 rfl ?_
  refine r_iconst (pc := 2242) C (v := (1 : Int32)) dL_law_2242 (by decide) ?_
  refine r_iadd (pc := 2243) C dL_law_2243 ?_
  refine r_topi (fun x1 ex1 => ?_)
  have h := h x1 ex1
  obtain ⟨i2, h⟩ := h
  refine r_scLd (pc := 2244) C E i2 dL_law_2244 ?_
  refine r_topi (fun x3 ex3 => ?_)
  have h := h x3 ex3
  refine r_aload_n (pc := 2245) C dL_law_2245 0 rfl ?_
  refine r_iload (pc := 2246) C dL_law_2246 4 rfl ?_
  refine r_iconst (pc := 2248) C (v := (2 : Int32)) dL_law_2248 (by decide) ?_
  refine r_iadd (pc := 2249) C dL_law_2249 ?_
  refine r_topi (fun x4 ex4 => ?_)
  have h := h x4 ex4
  obtain ⟨i5, h⟩ := h
  refine r_scLd (pc := 2250) C E i5 dL_law_2250 ?_
  refine r_topi (fun x6 ex6 => ?_)
  have h := h x6 ex6
  obtain ⟨o_v1, h⟩ := h
  obtain ⟨hk, hk2, h⟩ := h
  refine r_callVi0 (pc := 2251) C (rest := []) (a := v1) o_v1 [.int x3, .int x6] yV_X9_road g_1068 (c_X9_road h) dL_law_2251 rfl rfl (Nat.le_of_ble_eq_true rfl) ⟨by decide, by decide⟩ ⟨hk, hk2⟩ ⟨rfl, rfl⟩ (fun x9 S7 h g8 => ?_)
  have h := h g8
  have o_v1 := gr_ob g8 o_v1
  refine r_pop (pc := 2254) C dL_law_2254 rfl ?_
  refine r_aload_n (pc := 2255) C dL_law_2255 2 rfl ?_
  refine r_aload_n (pc := 2256) C dL_law_2256 0 rfl ?_
  refine r_iload (pc := 2257) C dL_law_2257 4 rfl ?_
  refine r_iconst (pc := 2259) C (v := (1 : Int32)) dL_law_2259 (by decide) ?_
  refine r_iadd (pc := 2260) C dL_law_2260 ?_
  refine r_topi (fun x10 ex10 => ?_)
  have h := h x10 ex10
  obtain ⟨i11, h⟩ := h
  refine r_scLd (pc := 2261) C E i11 dL_law_2261 ?_
  refine r_topi (fun x12 ex12 => ?_)
  have h := h x12 ex12
  refine r_aload_n (pc := 2262) C dL_law_2262 0 rfl ?_
  refine r_iload (pc := 2263) C dL_law_2263 4 rfl ?_
  refine r_iconst (pc := 2265) C (v := (2 : Int32)) dL_law_2265 (by decide) ?_
  refine r_iadd (pc := 2266) C dL_law_2266 ?_
  refine r_topi (fun x13 ex13 => ?_)
  have h := h x13 ex13
  obtain ⟨i14, h⟩ := h
  refine r_scLd (pc := 2267) C E i14 dL_law_2267 ?_
  refine r_topi (fun x15 ex15 => ?_)
  have h := h x15 ex15
  obtain ⟨o_v2, h⟩ := h
  obtain ⟨hk, hk2, h⟩ := h
  refine r_callVi0 (pc := 2268) C (rest := []) (a := v2) o_v2 [.int x12, .int x15] yV_X11_road g_1840 (c_X11_road h) dL_law_2268 rfl rfl (Nat.le_of_ble_eq_true rfl) ⟨by decide, by decide⟩ ⟨hk, hk2⟩ ⟨rfl, rfl⟩ (fun x18 S16 h g17 => ?_)
  have h := h g17
  have o_v1 := gr_ob g17 o_v1
  have o_v2 := gr_ob g17 o_v2
  refine r_pop (pc := 2271) C dL_law_2271 rfl ?_
  refine r_goto (pc := 2272) C (tgt := 2341) dL_law_2272 (by decide) ?_
  exact r_sub [0, 1, 2, 3, 4] rfl (T_L_law_2341 C E ht hn hX23 h)
def P_L_law_2275 (scL : Nat) (scx : Nat → Int32) (Q : Int32 → HS → Prop) (X23 : Nat → Nat → Nat → Int32 → Nat → Nat → HS → Prop) (v1 : Nat) (v2 : Nat) (v3 : Nat) (v4 : Int32) (kk : Nat) (nn : Nat) (S : HS) : Prop := ∀ x1 : Int32, x1 = v4 + (1 : Int32) → (vp_in x1 scL ∧ ∀ x3 : Int32, x3 = scx x1.toNatClampNeg → (kk + 2 ≤ rm_L_law.cells ∧ nn + 32 ≤ rm_L_law.slots ∧ P_L_led v1 x3 v3 (fun x5 S4 => Gr S S4 → (∀ x7 : Int32, x7 = v4 + (1 : Int32) → (vp_in x7 scL ∧ ∀ x9 : Int32, x9 = scx x7.toNatClampNeg → (ob S4 v2 11 ∧ (kk + 2 ≤ rm_L_law.cells ∧ nn + 32 ≤ rm_L_law.slots ∧ (P_X11_led v2 x9 (fun x12 S10 => Gr S4 S10 → (P_L_law_2341 scL scx Q X23 v1 v2 v3 v4 (kk + 2) (nn + 32) S10)) S4)))))) S))
set_option maxRecDepth 20000 in
set_option maxHeartbeats 4000000 in
theorem T_L_law_2275 {X : CX} {Q : Int32 → HS → Prop} {scb scL : Nat} {scx : Nat → Int32} (C : Cx X cL_law RL 7 rm_L_law) (E : LE X scb scL scx Q) (ht : LD X) (hn : True) {X23 : Nat → Nat → Nat → Int32 → Nat → Nat → HS → Prop} (hX23 : ∀ (v1 : Nat) (v2 : Nat) (v3 : Nat) (v4 : Int32) (kk : Nat) (nn : Nat) (S : HS), X23 v1 v2 v3 v4 kk nn S → WS X 7 kk nn 23 [(0, .ref scb), (1, .ref v1), (2, .ref v2), (3, .ref v3), (4, .int v4)] [] S) {v1 : Nat} {v2 : Nat} {v3 : Nat} {v4 : Int32} {kk : Nat} {nn : Nat} {S : HS} (h : P_L_law_2275 scL scx Q X23 v1 v2 v3 v4 kk nn S) : WS X 7 kk nn 2275 [(0, .ref scb), (1, .ref v1), (2, .ref v2), (3, .ref v3), (4, .int v4)] [] S := by
  refine r_aload_n (pc := 2275) C dL_law_2275 1 rfl ?_
  refine r_aload_n (pc := 2276) C dL_law_2276 0 rfl ?_
  refine r_iload (pc := 2277) C dL_law_2277 4 rfl ?_
  refine r_iconst (pc := 2279) C (v := (1 : Int32)) dL_law_2279 (by decide) ?_
  refine r_iadd (pc := 2280) C dL_law_2280 ?_
  refine r_topi (fun x1 ex1 => ?_)
  have h := h x1 ex1
  obtain ⟨i2, h⟩ := h
  refine r_scLd (pc := 2281) C E i2 dL_law_2281 ?_
  refine r_topi (fun x3 ex3 => ?_)
  have h := h x3 ex3
  refine r_aload_n (pc := 2282) C dL_law_2282 3 rfl ?_
  obtain ⟨hk, hk2, h⟩ := h
  refine ht _ _ 2283 _ [] _ _ _ _ _ _ hk hk2 dL_law_2283 g_1084 (Nat.le_of_ble_eq_true rfl) h (fun x5 S4 h g6 => ?_)
  have h := h g6
  refine r_istore (pc := 2286) C dL_law_2286 (by decide) (lv' := [(5, .int x5), (0, .ref scb), (1, .ref v1), (2, .ref v2), (3, .ref v3), (4, .int v4)]) rfl ?_
  refine r_aload_n (pc := 2288) C dL_law_2288 3 rfl ?_
  refine r_aload_n (pc := 2289) C dL_law_2289 1 rfl ?_
  refine r_iload (pc := 2290) C dL_law_2290 5 rfl ?_
  refine r_iconst (pc := 2292) C (v := (1 : Int32)) dL_law_2292 (by decide) ?_
  refine r_iadd (pc := 2293) C dL_law_2293 ?_
  refine r_topi (fun x7 ex7 => ?_)
  have h := h x7 ex7
  obtain ⟨i8, h⟩ := h
  refine r_scLd (pc := 2294) C E i8 dL_law_2294 ?_
  refine r_topi (fun x9 ex9 => ?_)
  have h := h x9 ex9
  obtain ⟨o_v2, h⟩ := h
  obtain ⟨hk, hk2, h⟩ := h
  refine r_callVi0 (pc := 2295) C (rest := []) (a := v2) o_v2 [.int x9] yV_X11_led g_1844 (c_X11_led h) dL_law_2295 rfl rfl (Nat.le_of_ble_eq_true rfl) ⟨by decide, by decide⟩ ⟨hk, hk2⟩ ⟨rfl, rfl⟩ (fun x12 S10 h g11 => ?_)
  have h := h g11
  have o_v2 := gr_ob g11 o_v2
  refine r_istore (pc := 2298) C dL_law_2298 (by decide) (lv' := [(6, .int x12), (5, .int x5), (0, .ref scb), (1, .ref v1), (2, .ref v2), (3, .ref v3), (4, .int v4)]) rfl ?_
  refine r_goto (pc := 2300) C (tgt := 2341) dL_law_2300 (by decide) ?_
  exact r_sub [2, 3, 4, 5, 6] rfl (T_L_law_2341 C E ht hn hX23 h)
end
section
def P_L_law_2303 (scL : Nat) (scx : Nat → Int32) (Q : Int32 → HS → Prop) (X23 : Nat → Nat → Nat → Int32 → Nat → Nat → HS → Prop) (v1 : Nat) (v2 : Nat) (v3 : Nat) (v4 : Int32) (kk : Nat) (nn : Nat) (S : HS) : Prop := ∀ x1 : Int32, x1 = v4 + (1 : Int32) → (vp_in x1 scL ∧ ∀ x3 : Int32, x3 = scx x1.toNatClampNeg → (ob S v1 9 ∧ (kk ≤ rm_L_law.cells ∧ nn ≤ rm_L_law.slots ∧ (P_X9_size v1 x3 (fun x6 S4 => Gr S S4 → (∀ x7 : Int32, x7 = v4 + (1 : Int32) → (vp_in x7 scL ∧ ∀ x9 : Int32, x9 = scx x7.toNatClampNeg → (ob S4 v2 11 ∧ (kk ≤ rm_L_law.cells ∧ nn ≤ rm_L_law.slots ∧ (P_X11_size v2 x9 (fun x12 S10 => Gr S4 S10 → (P_L_law_2341 scL scx Q X23 v1 v2 v3 v4 kk nn S10)) S4)))))) S))))
set_option maxRecDepth 20000 in
set_option maxHeartbeats 4000000 in
theorem T_L_law_2303 {X : CX} {Q : Int32 → HS → Prop} {scb scL : Nat} {scx : Nat → Int32} (C : Cx X cL_law RL 7 rm_L_law) (E : LE X scb scL scx Q) (ht : LD X) (hn : True) {X23 : Nat → Nat → Nat → Int32 → Nat → Nat → HS → Prop} (hX23 : ∀ (v1 : Nat) (v2 : Nat) (v3 : Nat) (v4 : Int32) (kk : Nat) (nn : Nat) (S : HS), X23 v1 v2 v3 v4 kk nn S → WS X 7 kk nn 23 [(0, .ref scb), (1, .ref v1), (2, .ref v2), (3, .ref v3), (4, .int v4)] [] S) {v1 : Nat} {v2 : Nat} {v3 : Nat} {v4 : Int32} {kk : Nat} {nn : Nat} {S : HS} (h : P_L_law_2303 scL scx Q X23 v1 v2 v3 v4 kk nn S) : WS X 7 kk nn 2303 [(0, .ref scb), (1, .ref v1), (2, .ref v2), (3, .ref v3), (4, .int v4)] [] S := by
  refine r_aload_n (pc := 2303) C dL_law_2303 1 rfl ?_
  refine r_aload_n (pc := 2304) C dL_law_2304 0 rfl ?_
  refine r_iload (pc := 2305) C dL_law_2305 4 rfl ?_
  refine r_iconst (pc := 2307) C (v := (1 : Int32)) dL_law_2307 (by decide) ?_
  refine r_iadd (pc := 2308) C dL_law_2308 ?_
  refine r_topi (fun x1 ex1 => ?_)
  have h := h x1 ex1
  obtain ⟨i2, h⟩ := h
  refine r_scLd (pc := 2309) C E i2 dL_law_2309 ?_
  refine r_topi (fun x3 ex3 => ?_)
  have h := h x3 ex3
  obtain ⟨o_v1, h⟩ := h
  obtain ⟨hk, hk2, h⟩ := h
  refine r_callVi0 (pc := 2310) C (rest := []) (a := v1) o_v1 [.int x3] yV_X9_size g_1076 (c_X9_size h) dL_law_2310 rfl rfl (Nat.le_of_ble_eq_true rfl) ⟨by decide, by decide⟩ ⟨hk, hk2⟩ ⟨rfl, rfl⟩ (fun x6 S4 h g5 => ?_)
  have h := h g5
  have o_v1 := gr_ob g5 o_v1
  refine r_pop (pc := 2313) C dL_law_2313 rfl ?_
  refine r_aload_n (pc := 2314) C dL_law_2314 2 rfl ?_
  refine r_aload_n (pc := 2315) C dL_law_2315 0 rfl ?_
  refine r_iload (pc := 2316) C dL_law_2316 4 rfl ?_
  refine r_iconst (pc := 2318) C (v := (1 : Int32)) dL_law_2318 (by decide) ?_
  refine r_iadd (pc := 2319) C dL_law_2319 ?_
  refine r_topi (fun x7 ex7 => ?_)
  have h := h x7 ex7
  obtain ⟨i8, h⟩ := h
  refine r_scLd (pc := 2320) C E i8 dL_law_2320 ?_
  refine r_topi (fun x9 ex9 => ?_)
  have h := h x9 ex9
  obtain ⟨o_v2, h⟩ := h
  obtain ⟨hk, hk2, h⟩ := h
  refine r_callVi0 (pc := 2321) C (rest := []) (a := v2) o_v2 [.int x9] yV_X11_size g_1848 (c_X11_size h) dL_law_2321 rfl rfl (Nat.le_of_ble_eq_true rfl) ⟨by decide, by decide⟩ ⟨hk, hk2⟩ ⟨rfl, rfl⟩ (fun x12 S10 h g11 => ?_)
  have h := h g11
  have o_v1 := gr_ob g11 o_v1
  have o_v2 := gr_ob g11 o_v2
  refine r_pop (pc := 2324) C dL_law_2324 rfl ?_
  refine r_goto (pc := 2325) C (tgt := 2341) dL_law_2325 (by decide) ?_
  exact r_sub [0, 1, 2, 3, 4] rfl (T_L_law_2341 C E ht hn hX23 h)
def P_L_law_2328 (scL : Nat) (scx : Nat → Int32) (Q : Int32 → HS → Prop) (X23 : Nat → Nat → Nat → Int32 → Nat → Nat → HS → Prop) (v1 : Nat) (v2 : Nat) (v3 : Nat) (v4 : Int32) (kk : Nat) (nn : Nat) (S : HS) : Prop := ob S v1 9 ∧ (kk ≤ rm_L_law.cells ∧ nn ≤ rm_L_law.slots ∧ (P_X9_trouble v1 (fun x3 S1 => Gr S S1 → (ob S1 v2 11 ∧ (kk ≤ rm_L_law.cells ∧ nn ≤ rm_L_law.slots ∧ (P_X11_trouble v2 (fun x6 S4 => Gr S1 S4 → (P_L_law_2341 scL scx Q X23 v1 v2 v3 v4 kk nn S4)) S1)))) S))
set_option maxRecDepth 20000 in
set_option maxHeartbeats 4000000 in
theorem T_L_law_2328 {X : CX} {Q : Int32 → HS → Prop} {scb scL : Nat} {scx : Nat → Int32} (C : Cx X cL_law RL 7 rm_L_law) (E : LE X scb scL scx Q) (ht : LD X) (hn : True) {X23 : Nat → Nat → Nat → Int32 → Nat → Nat → HS → Prop} (hX23 : ∀ (v1 : Nat) (v2 : Nat) (v3 : Nat) (v4 : Int32) (kk : Nat) (nn : Nat) (S : HS), X23 v1 v2 v3 v4 kk nn S → WS X 7 kk nn 23 [(0, .ref scb), (1, .ref v1), (2, .ref v2), (3, .ref v3), (4, .int v4)] [] S) {v1 : Nat} {v2 : Nat} {v3 : Nat} {v4 : Int32} {kk : Nat} {nn : Nat} {S : HS} (h : P_L_law_2328 scL scx Q X23 v1 v2 v3 v4 kk nn S) : WS X 7 kk nn 2328 [(0, .ref scb), (1, .ref v1), (2, .ref v2), (3, .ref v3), (4, .int v4)] [] S := by
  refine r_aload_n (pc := 2328) C dL_law_2328 1 rfl ?_
  obtain ⟨o_v1, h⟩ := h
  obtain ⟨hk, hk2, h⟩ := h
  refine r_callVi0 (pc := 2329) C (rest := []) (a := v1) o_v1 [] yV_X9_trouble g_1080 (c_X9_trouble h) dL_law_2329 rfl rfl (Nat.le_of_ble_eq_true rfl) ⟨by decide, by decide⟩ ⟨hk, hk2⟩ ⟨rfl, rfl⟩ (fun x3 S1 h g2 => ?_)
  have h := h g2
  have o_v1 := gr_ob g2 o_v1
  refine r_pop (pc := 2332) C dL_law_2332 rfl ?_
  refine r_aload_n (pc := 2333) C dL_law_2333 2 rfl ?_
  obtain ⟨o_v2, h⟩ := h
  obtain ⟨hk, hk2, h⟩ := h
  refine r_callVi0 (pc := 2334) C (rest := []) (a := v2) o_v2 [] yV_X11_trouble g_1852 (c_X11_trouble h) dL_law_2334 rfl rfl (Nat.le_of_ble_eq_true rfl) ⟨by decide, by decide⟩ ⟨hk, hk2⟩ ⟨rfl, rfl⟩ (fun x6 S4 h g5 => ?_)
  have h := h g5
  have o_v1 := gr_ob g5 o_v1
  have o_v2 := gr_ob g5 o_v2
  refine r_pop (pc := 2337) C dL_law_2337 rfl ?_
  refine r_goto (pc := 2338) C (tgt := 2341) dL_law_2338 (by decide) ?_
  exact r_sub [0, 1, 2, 3, 4] rfl (T_L_law_2341 C E ht hn hX23 h)
def B_L_law_23 (scL : Nat) (scx : Nat → Int32) (Q : Int32 → HS → Prop) (X23 : Nat → Nat → Nat → Int32 → Nat → Nat → HS → Prop) (v1 : Nat) (v2 : Nat) (v3 : Nat) (v4 : Int32) (kk : Nat) (nn : Nat) (S : HS) : Prop := ((((nI scL) - (8 : Int32)) < v4) → (kk ≤ rm_L_law.cells ∧ nn ≤ rm_L_law.slots ∧ (1 : Int32) = 1 ∧ Q (1 : Int32) S)) ∧ ((¬ ((nI scL) - (8 : Int32)) < v4) → (vp_in v4 scL ∧ ∀ x3 : Int32, x3 = scx v4.toNatClampNeg → (((x3 &&& (63 : Int32)).toInt < 0 ∨ 39 < (x3 &&& (63 : Int32)).toInt → (P_L_law_2341 scL scx Q X23 v1 v2 v3 v4 kk nn S)) ∧ ((x3 &&& (63 : Int32)).toInt = 0 → (P_L_law_216 scL scx Q X23 v1 v2 v3 v4 kk nn S)) ∧ ((x3 &&& (63 : Int32)).toInt = 1 → (P_L_law_289 scL scx Q X23 v1 v2 v3 v4 kk nn S)) ∧ ((x3 &&& (63 : Int32)).toInt = 2 → (P_L_law_314 scL scx Q X23 v1 v2 v3 v4 kk nn S)) ∧ ((x3 &&& (63 : Int32)).toInt = 3 → (P_L_law_327 scL scx Q X23 v1 v2 v3 v4 kk nn S)) ∧ ((x3 &&& (63 : Int32)).toInt = 4 → (P_L_law_340 scL scx Q X23 v1 v2 v3 v4 kk nn S)) ∧ ((x3 &&& (63 : Int32)).toInt = 5 → (P_L_law_457 scL scx Q X23 v1 v2 v3 v4 kk nn S)) ∧ ((x3 &&& (63 : Int32)).toInt = 6 → (P_L_law_560 scL scx Q X23 v1 v2 v3 v4 kk nn S)) ∧ ((x3 &&& (63 : Int32)).toInt = 7 → (P_L_law_663 scL scx Q X23 v1 v2 v3 v4 kk nn S)) ∧ ((x3 &&& (63 : Int32)).toInt = 8 → (P_L_law_712 scL scx Q X23 v1 v2 v3 v4 kk nn S)) ∧ ((x3 &&& (63 : Int32)).toInt = 9 → (P_L_law_761 scL scx Q X23 v1 v2 v3 v4 kk nn S)) ∧ ((x3 &&& (63 : Int32)).toInt = 10 → (P_L_law_834 scL scx Q X23 v1 v2 v3 v4 kk nn S)) ∧ ((x3 &&& (63 : Int32)).toInt = 11 → (P_L_law_895 scL scx Q X23 v1 v2 v3 v4 kk nn S)) ∧ ((x3 &&& (63 : Int32)).toInt = 12 → (P_L_law_984 scL scx Q X23 v1 v2 v3 v4 kk nn S)) ∧ ((x3 &&& (63 : Int32)).toInt = 13 → (P_L_law_1045 scL scx Q X23 v1 v2 v3 v4 kk nn S)) ∧ ((x3 &&& (63 : Int32)).toInt = 14 → (P_L_law_1106 scL scx Q X23 v1 v2 v3 v4 kk nn S)) ∧ ((x3 &&& (63 : Int32)).toInt = 15 → (P_L_law_1183 scL scx Q X23 v1 v2 v3 v4 kk nn S)) ∧ ((x3 &&& (63 : Int32)).toInt = 16 → (P_L_law_1232 scL scx Q X23 v1 v2 v3 v4 kk nn S)) ∧ ((x3 &&& (63 : Int32)).toInt = 17 → (P_L_law_1349 scL scx Q X23 v1 v2 v3 v4 kk nn S)) ∧ ((x3 &&& (63 : Int32)).toInt = 18 → (P_L_law_1436 scL scx Q X23 v1 v2 v3 v4 kk nn S)) ∧ ((x3 &&& (63 : Int32)).toInt = 19 → (P_L_law_1539 scL scx Q X23 v1 v2 v3 v4 kk nn S)) ∧ ((x3 &&& (63 : Int32)).toInt = 20 → (P_L_law_1612 scL scx Q X23 v1 v2 v3 v4 kk nn S)) ∧ ((x3 &&& (63 : Int32)).toInt = 21 → (P_L_law_1685 scL scx Q X23 v1 v2 v3 v4 kk nn S)) ∧ ((x3 &&& (63 : Int32)).toInt = 22 → (P_L_law_1772 scL scx Q X23 v1 v2 v3 v4 kk nn S)) ∧ ((x3 &&& (63 : Int32)).toInt = 23 → (P_L_law_1833 scL scx Q X23 v1 v2 v3 v4 kk nn S)) ∧ ((x3 &&& (63 : Int32)).toInt = 24 → (P_L_law_1858 scL scx Q X23 v1 v2 v3 v4 kk nn S)) ∧ ((x3 &&& (63 : Int32)).toInt = 25 → (P_L_law_1895 scL scx Q X23 v1 v2 v3 v4 kk nn S)) ∧ ((x3 &&& (63 : Int32)).toInt = 26 → (P_L_law_1908 scL scx Q X23 v1 v2 v3 v4 kk nn S)) ∧ ((x3 &&& (63 : Int32)).toInt = 27 → (P_L_law_1969 scL scx Q X23 v1 v2 v3 v4 kk nn S)) ∧ ((x3 &&& (63 : Int32)).toInt = 28 → (P_L_law_2018 scL scx Q X23 v1 v2 v3 v4 kk nn S)) ∧ ((x3 &&& (63 : Int32)).toInt = 29 → (P_L_law_2043 scL scx Q X23 v1 v2 v3 v4 kk nn S)) ∧ ((x3 &&& (63 : Int32)).toInt = 30 → (P_L_law_2096 scL scx Q X23 v1 v2 v3 v4 kk nn S)) ∧ ((x3 &&& (63 : Int32)).toInt = 31 → (P_L_law_2137 scL scx Q X23 v1 v2 v3 v4 kk nn S)) ∧ ((x3 &&& (63 : Int32)).toInt = 32 → (P_L_law_2150 scL scx Q X23 v1 v2 v3 v4 kk nn S)) ∧ ((x3 &&& (63 : Int32)).toInt = 33 → (P_L_law_2163 scL scx Q X23 v1 v2 v3 v4 kk nn S)) ∧ ((x3 &&& (63 : Int32)).toInt = 34 → (P_L_law_2176 scL scx Q X23 v1 v2 v3 v4 kk nn S)) ∧ ((x3 &&& (63 : Int32)).toInt = 35 → (P_L_law_2201 scL scx Q X23 v1 v2 v3 v4 kk nn S)) ∧ ((x3 &&& (63 : Int32)).toInt = 36 → (P_L_law_2238 scL scx Q X23 v1 v2 v3 v4 kk nn S)) ∧ ((x3 &&& (63 : Int32)).toInt = 37 → (P_L_law_2275 scL scx Q X23 v1 v2 v3 v4 kk nn S)) ∧ ((x3 &&& (63 : Int32)).toInt = 38 → (P_L_law_2303 scL scx Q X23 v1 v2 v3 v4 kk nn S)) ∧ ((x3 &&& (63 : Int32)).toInt = 39 → (P_L_law_2328 scL scx Q X23 v1 v2 v3 v4 kk nn S)))))
def P_L_law_23 (scL : Nat) (scx : Nat → Int32) (Q : Int32 → HS → Prop) (v1 : Nat) (v2 : Nat) (v3 : Nat) (v4 : Int32) (kk : Nat) (nn : Nat) (S : HS) : Prop := ∀ X23 : Nat → Nat → Nat → Int32 → Nat → Nat → HS → Prop, (∀ (v1 : Nat) (v2 : Nat) (v3 : Nat) (v4 : Int32) (kk : Nat) (nn : Nat) (S : HS), B_L_law_23 scL scx Q X23 v1 v2 v3 v4 kk nn S → X23 v1 v2 v3 v4 kk nn S) → X23 v1 v2 v3 v4 kk nn S
set_option maxRecDepth 20000 in
set_option maxHeartbeats 4000000 in
theorem TB_L_law_23 {X : CX} {Q : Int32 → HS → Prop} {scb scL : Nat} {scx : Nat → Int32} (C : Cx X cL_law RL 7 rm_L_law) (E : LE X scb scL scx Q) (ht : LD X) (hn : True) {X23 : Nat → Nat → Nat → Int32 → Nat → Nat → HS → Prop} (hX23 : ∀ (v1 : Nat) (v2 : Nat) (v3 : Nat) (v4 : Int32) (kk : Nat) (nn : Nat) (S : HS), X23 v1 v2 v3 v4 kk nn S → WS X 7 kk nn 23 [(0, .ref scb), (1, .ref v1), (2, .ref v2), (3, .ref v3), (4, .int v4)] [] S) {v1 : Nat} {v2 : Nat} {v3 : Nat} {v4 : Int32} {kk : Nat} {nn : Nat} {S : HS} (h : B_L_law_23 scL scx Q X23 v1 v2 v3 v4 kk nn S) : WS X 7 kk nn 23 [(0, .ref scb), (1, .ref v1), (2, .ref v2), (3, .ref v3), (4, .int v4)] [] S := by
  refine r_iload (pc := 23) C dL_law_23 4 rfl ?_
  refine r_aload_n (pc := 25) C dL_law_25 0 rfl ?_
  refine r_scLen (pc := 26) C E dL_law_26 ?_
  refine r_bipush (pc := 27) C (v := (8 : Int32)) dL_law_27 (by decide) ?_
  refine r_isub (pc := 29) C dL_law_29 ?_
  refine r_icmp_gt (pc := 30) C (tgt := 2347) dL_law_30 (by decide) (fun c1 => ?_) (fun c1 => ?_)
  · have h := h.1 c1
    refine r_iconst (pc := 2347) C (v := (1 : Int32)) dL_law_2347 (by decide) ?_
    obtain ⟨hk, hk2, he, h⟩ := h
    exact r_lawret (pc := 2348) C E dL_law_2348 hk hk2 he
  · have h := h.2 c1
    refine r_aload_n (pc := 33) C dL_law_33 0 rfl ?_
    refine r_iload (pc := 34) C dL_law_34 4 rfl ?_
    obtain ⟨i2, h⟩ := h
    refine r_scLd (pc := 36) C E i2 dL_law_36 ?_
    refine r_topi (fun x3 ex3 => ?_)
    have h := h x3 ex3
    refine r_bipush (pc := 37) C (v := (63 : Int32)) dL_law_37 (by decide) ?_
    refine r_iand (pc := 39) C dL_law_39 ?_
    refine r_table (pc := 40) C (tgt := 2341) dL_law_40 (by decide) (fun c4 => ?_) (fun j hj hx => ?_)
    · have h := h.1 c4
      exact r_sub [0, 1, 2, 3, 4] rfl (T_L_law_2341 C E ht hn hX23 h)
    · match j, hj, hx with
      | 0, _, hx =>
        refine ⟨176, 216, rfl, by decide, ?_⟩
        have h := h.2.1 (by simpa using hx)
        exact r_sub [0, 1, 2, 3, 4] rfl (T_L_law_216 C E ht hn hX23 h)
      | 1, _, hx =>
        refine ⟨249, 289, rfl, by decide, ?_⟩
        have h := h.2.2.1 (by simpa using hx)
        exact r_sub [0, 1, 2, 3, 4] rfl (T_L_law_289 C E ht hn hX23 h)
      | 2, _, hx =>
        refine ⟨274, 314, rfl, by decide, ?_⟩
        have h := h.2.2.2.1 (by simpa using hx)
        exact r_sub [0, 1, 2, 3, 4] rfl (T_L_law_314 C E ht hn hX23 h)
      | 3, _, hx =>
        refine ⟨287, 327, rfl, by decide, ?_⟩
        have h := h.2.2.2.2.1 (by simpa using hx)
        exact r_sub [0, 1, 2, 3, 4] rfl (T_L_law_327 C E ht hn hX23 h)
      | 4, _, hx =>
        refine ⟨300, 340, rfl, by decide, ?_⟩
        have h := h.2.2.2.2.2.1 (by simpa using hx)
        exact r_sub [0, 1, 2, 3, 4] rfl (T_L_law_340 C E ht hn hX23 h)
      | 5, _, hx =>
        refine ⟨417, 457, rfl, by decide, ?_⟩
        have h := h.2.2.2.2.2.2.1 (by simpa using hx)
        exact r_sub [0, 1, 2, 3, 4] rfl (T_L_law_457 C E ht hn hX23 h)
      | 6, _, hx =>
        refine ⟨520, 560, rfl, by decide, ?_⟩
        have h := h.2.2.2.2.2.2.2.1 (by simpa using hx)
        exact r_sub [0, 1, 2, 3, 4] rfl (T_L_law_560 C E ht hn hX23 h)
      | 7, _, hx =>
        refine ⟨623, 663, rfl, by decide, ?_⟩
        have h := h.2.2.2.2.2.2.2.2.1 (by simpa using hx)
        exact r_sub [0, 1, 2, 3, 4] rfl (T_L_law_663 C E ht hn hX23 h)
      | 8, _, hx =>
        refine ⟨672, 712, rfl, by decide, ?_⟩
        have h := h.2.2.2.2.2.2.2.2.2.1 (by simpa using hx)
        exact r_sub [0, 1, 2, 3, 4] rfl (T_L_law_712 C E ht hn hX23 h)
      | 9, _, hx =>
        refine ⟨721, 761, rfl, by decide, ?_⟩
        have h := h.2.2.2.2.2.2.2.2.2.2.1 (by simpa using hx)
        exact r_sub [0, 1, 2, 3, 4] rfl (T_L_law_761 C E ht hn hX23 h)
      | 10, _, hx =>
        refine ⟨794, 834, rfl, by decide, ?_⟩
        have h := h.2.2.2.2.2.2.2.2.2.2.2.1 (by simpa using hx)
        exact r_sub [0, 1, 2, 3, 4] rfl (T_L_law_834 C E ht hn hX23 h)
      | 11, _, hx =>
        refine ⟨855, 895, rfl, by decide, ?_⟩
        have h := h.2.2.2.2.2.2.2.2.2.2.2.2.1 (by simpa using hx)
        exact r_sub [0, 1, 2, 3, 4] rfl (T_L_law_895 C E ht hn hX23 h)
      | 12, _, hx =>
        refine ⟨944, 984, rfl, by decide, ?_⟩
        have h := h.2.2.2.2.2.2.2.2.2.2.2.2.2.1 (by simpa using hx)
        exact r_sub [0, 1, 2, 3, 4] rfl (T_L_law_984 C E ht hn hX23 h)
      | 13, _, hx =>
        refine ⟨1005, 1045, rfl, by decide, ?_⟩
        have h := h.2.2.2.2.2.2.2.2.2.2.2.2.2.2.1 (by simpa using hx)
        exact r_sub [0, 1, 2, 3, 4] rfl (T_L_law_1045 C E ht hn hX23 h)
      | 14, _, hx =>
        refine ⟨1066, 1106, rfl, by decide, ?_⟩
        have h := h.2.2.2.2.2.2.2.2.2.2.2.2.2.2.2.1 (by simpa using hx)
        exact r_sub [0, 1, 2, 3, 4] rfl (T_L_law_1106 C E ht hn hX23 h)
      | 15, _, hx =>
        refine ⟨1143, 1183, rfl, by decide, ?_⟩
        have h := h.2.2.2.2.2.2.2.2.2.2.2.2.2.2.2.2.1 (by simpa using hx)
        exact r_sub [0, 1, 2, 3, 4] rfl (T_L_law_1183 C E ht hn hX23 h)
      | 16, _, hx =>
        refine ⟨1192, 1232, rfl, by decide, ?_⟩
        have h := h.2.2.2.2.2.2.2.2.2.2.2.2.2.2.2.2.2.1 (by simpa using hx)
        exact r_sub [0, 1, 2, 3, 4] rfl (T_L_law_1232 C E ht hn hX23 h)
      | 17, _, hx =>
        refine ⟨1309, 1349, rfl, by decide, ?_⟩
        have h := h.2.2.2.2.2.2.2.2.2.2.2.2.2.2.2.2.2.2.1 (by simpa using hx)
        exact r_sub [0, 1, 2, 3, 4] rfl (T_L_law_1349 C E ht hn hX23 h)
      | 18, _, hx =>
        refine ⟨1396, 1436, rfl, by decide, ?_⟩
        have h := h.2.2.2.2.2.2.2.2.2.2.2.2.2.2.2.2.2.2.2.1 (by simpa using hx)
        exact r_sub [0, 1, 2, 3, 4] rfl (T_L_law_1436 C E ht hn hX23 h)
      | 19, _, hx =>
        refine ⟨1499, 1539, rfl, by decide, ?_⟩
        have h := h.2.2.2.2.2.2.2.2.2.2.2.2.2.2.2.2.2.2.2.2.1 (by simpa using hx)
        exact r_sub [0, 1, 2, 3, 4] rfl (T_L_law_1539 C E ht hn hX23 h)
      | 20, _, hx =>
        refine ⟨1572, 1612, rfl, by decide, ?_⟩
        have h := h.2.2.2.2.2.2.2.2.2.2.2.2.2.2.2.2.2.2.2.2.2.1 (by simpa using hx)
        exact r_sub [0, 1, 2, 3, 4] rfl (T_L_law_1612 C E ht hn hX23 h)
      | 21, _, hx =>
        refine ⟨1645, 1685, rfl, by decide, ?_⟩
        have h := h.2.2.2.2.2.2.2.2.2.2.2.2.2.2.2.2.2.2.2.2.2.2.1 (by simpa using hx)
        exact r_sub [0, 1, 2, 3, 4] rfl (T_L_law_1685 C E ht hn hX23 h)
      | 22, _, hx =>
        refine ⟨1732, 1772, rfl, by decide, ?_⟩
        have h := h.2.2.2.2.2.2.2.2.2.2.2.2.2.2.2.2.2.2.2.2.2.2.2.1 (by simpa using hx)
        exact r_sub [0, 1, 2, 3, 4] rfl (T_L_law_1772 C E ht hn hX23 h)
      | 23, _, hx =>
        refine ⟨1793, 1833, rfl, by decide, ?_⟩
        have h := h.2.2.2.2.2.2.2.2.2.2.2.2.2.2.2.2.2.2.2.2.2.2.2.2.1 (by simpa using hx)
        exact r_sub [0, 1, 2, 3, 4] rfl (T_L_law_1833 C E ht hn hX23 h)
      | 24, _, hx =>
        refine ⟨1818, 1858, rfl, by decide, ?_⟩
        have h := h.2.2.2.2.2.2.2.2.2.2.2.2.2.2.2.2.2.2.2.2.2.2.2.2.2.1 (by simpa using hx)
        exact r_sub [0, 1, 2, 3, 4] rfl (T_L_law_1858 C E ht hn hX23 h)
      | 25, _, hx =>
        refine ⟨1855, 1895, rfl, by decide, ?_⟩
        have h := h.2.2.2.2.2.2.2.2.2.2.2.2.2.2.2.2.2.2.2.2.2.2.2.2.2.2.1 (by simpa using hx)
        exact r_sub [0, 1, 2, 3, 4] rfl (T_L_law_1895 C E ht hn hX23 h)
      | 26, _, hx =>
        refine ⟨1868, 1908, rfl, by decide, ?_⟩
        have h := h.2.2.2.2.2.2.2.2.2.2.2.2.2.2.2.2.2.2.2.2.2.2.2.2.2.2.2.1 (by simpa using hx)
        exact r_sub [0, 1, 2, 3, 4] rfl (T_L_law_1908 C E ht hn hX23 h)
      | 27, _, hx =>
        refine ⟨1929, 1969, rfl, by decide, ?_⟩
        have h := h.2.2.2.2.2.2.2.2.2.2.2.2.2.2.2.2.2.2.2.2.2.2.2.2.2.2.2.2.1 (by simpa using hx)
        exact r_sub [0, 1, 2, 3, 4] rfl (T_L_law_1969 C E ht hn hX23 h)
      | 28, _, hx =>
        refine ⟨1978, 2018, rfl, by decide, ?_⟩
        have h := h.2.2.2.2.2.2.2.2.2.2.2.2.2.2.2.2.2.2.2.2.2.2.2.2.2.2.2.2.2.1 (by simpa using hx)
        exact r_sub [0, 1, 2, 3, 4] rfl (T_L_law_2018 C E ht hn hX23 h)
      | 29, _, hx =>
        refine ⟨2003, 2043, rfl, by decide, ?_⟩
        have h := h.2.2.2.2.2.2.2.2.2.2.2.2.2.2.2.2.2.2.2.2.2.2.2.2.2.2.2.2.2.2.1 (by simpa using hx)
        exact r_sub [0, 1, 2, 3, 4] rfl (T_L_law_2043 C E ht hn hX23 h)
      | 30, _, hx =>
        refine ⟨2056, 2096, rfl, by decide, ?_⟩
        have h := h.2.2.2.2.2.2.2.2.2.2.2.2.2.2.2.2.2.2.2.2.2.2.2.2.2.2.2.2.2.2.2.1 (by simpa using hx)
        exact r_sub [0, 1, 2, 3, 4] rfl (T_L_law_2096 C E ht hn hX23 h)
      | 31, _, hx =>
        refine ⟨2097, 2137, rfl, by decide, ?_⟩
        have h := h.2.2.2.2.2.2.2.2.2.2.2.2.2.2.2.2.2.2.2.2.2.2.2.2.2.2.2.2.2.2.2.2.1 (by simpa using hx)
        exact r_sub [0, 1, 2, 3, 4] rfl (T_L_law_2137 C E ht hn hX23 h)
      | 32, _, hx =>
        refine ⟨2110, 2150, rfl, by decide, ?_⟩
        have h := h.2.2.2.2.2.2.2.2.2.2.2.2.2.2.2.2.2.2.2.2.2.2.2.2.2.2.2.2.2.2.2.2.2.1 (by simpa using hx)
        exact r_sub [0, 1, 2, 3, 4] rfl (T_L_law_2150 C E ht hn hX23 h)
      | 33, _, hx =>
        refine ⟨2123, 2163, rfl, by decide, ?_⟩
        have h := h.2.2.2.2.2.2.2.2.2.2.2.2.2.2.2.2.2.2.2.2.2.2.2.2.2.2.2.2.2.2.2.2.2.2.1 (by simpa using hx)
        exact r_sub [0, 1, 2, 3, 4] rfl (T_L_law_2163 C E ht hn hX23 h)
      | 34, _, hx =>
        refine ⟨2136, 2176, rfl, by decide, ?_⟩
        have h := h.2.2.2.2.2.2.2.2.2.2.2.2.2.2.2.2.2.2.2.2.2.2.2.2.2.2.2.2.2.2.2.2.2.2.2.1 (by simpa using hx)
        exact r_sub [0, 1, 2, 3, 4] rfl (T_L_law_2176 C E ht hn hX23 h)
      | 35, _, hx =>
        refine ⟨2161, 2201, rfl, by decide, ?_⟩
        have h := h.2.2.2.2.2.2.2.2.2.2.2.2.2.2.2.2.2.2.2.2.2.2.2.2.2.2.2.2.2.2.2.2.2.2.2.2.1 (by simpa using hx)
        exact r_sub [0, 1, 2, 3, 4] rfl (T_L_law_2201 C E ht hn hX23 h)
      | 36, _, hx =>
        refine ⟨2198, 2238, rfl, by decide, ?_⟩
        have h := h.2.2.2.2.2.2.2.2.2.2.2.2.2.2.2.2.2.2.2.2.2.2.2.2.2.2.2.2.2.2.2.2.2.2.2.2.2.1 (by simpa using hx)
        exact r_sub [0, 1, 2, 3, 4] rfl (T_L_law_2238 C E ht hn hX23 h)
      | 37, _, hx =>
        refine ⟨2235, 2275, rfl, by decide, ?_⟩
        have h := h.2.2.2.2.2.2.2.2.2.2.2.2.2.2.2.2.2.2.2.2.2.2.2.2.2.2.2.2.2.2.2.2.2.2.2.2.2.2.1 (by simpa using hx)
        exact r_sub [0, 1, 2, 3, 4] rfl (T_L_law_2275 C E ht hn hX23 h)
      | 38, _, hx =>
        refine ⟨2263, 2303, rfl, by decide, ?_⟩
        have h := h.2.2.2.2.2.2.2.2.2.2.2.2.2.2.2.2.2.2.2.2.2.2.2.2.2.2.2.2.2.2.2.2.2.2.2.2.2.2.2.1 (by simpa using hx)
        exact r_sub [0, 1, 2, 3, 4] rfl (T_L_law_2303 C E ht hn hX23 h)
      | 39, _, hx =>
        refine ⟨2288, 2328, rfl, by decide, ?_⟩
        have h := h.2.2.2.2.2.2.2.2.2.2.2.2.2.2.2.2.2.2.2.2.2.2.2.2.2.2.2.2.2.2.2.2.2.2.2.2.2.2.2.2 (by simpa using hx)
        exact r_sub [0, 1, 2, 3, 4] rfl (T_L_law_2328 C E ht hn hX23 h)
      | j + 40, hj, _ => exact absurd hj (by omega)
theorem T_L_law_23 {X : CX} {Q : Int32 → HS → Prop} {scb scL : Nat} {scx : Nat → Int32} (C : Cx X cL_law RL 7 rm_L_law) (E : LE X scb scL scx Q) (ht : LD X) (hn : True) {v1 : Nat} {v2 : Nat} {v3 : Nat} {v4 : Int32} {kk : Nat} {nn : Nat} {S : HS} (h : P_L_law_23 scL scx Q v1 v2 v3 v4 kk nn S) : WS X 7 kk nn 23 [(0, .ref scb), (1, .ref v1), (2, .ref v2), (3, .ref v3), (4, .int v4)] [] S :=
  h (fun v1 v2 v3 v4 kk nn S => WS X 7 kk nn 23 [(0, .ref scb), (1, .ref v1), (2, .ref v2), (3, .ref v3), (4, .int v4)] [] S) (fun v1 v2 v3 v4 kk nn S hh => TB_L_law_23 C E ht hn (fun v1 v2 v3 v4 kk nn S z => z) hh)
def P_L_law_0 (scL : Nat) (scx : Nat → Int32) (Q : Int32 → HS → Prop) (kk : Nat) (nn : Nat) (S : HS) : Prop := kk + 1 ≤ rm_L_law.cells ∧ nn + 10 ≤ rm_L_law.slots ∧ ∀ a1 : Nat, a1 ∉ hL S → ∀ S2 : HS, S2 = nW S a1 9 0 → (kk + 1 + 118 ≤ rm_L_law.cells ∧ nn + 10 + 1517 ≤ rm_L_law.slots ∧ (P_X9_init a1 (fun S3 => Gr S2 S3 → (kk + 1 + 118 + 1 ≤ rm_L_law.cells ∧ nn + 10 + 1517 + 26 ≤ rm_L_law.slots ∧ ∀ a6 : Nat, a6 ∉ hL S3 → ∀ S7 : HS, S7 = nW S3 a6 11 0 → (kk + 1 + 118 + 1 + 7 ≤ rm_L_law.cells ∧ nn + 10 + 1517 + 26 + 10664 ≤ rm_L_law.slots ∧ (P_X11_init a6 (fun S8 => Gr S7 S8 → (kk + 1 + 118 + 1 + 7 + 1 ≤ rm_L_law.cells ∧ nn + 10 + 1517 + 26 + 10664 + 1 ≤ rm_L_law.slots ∧ ∀ a11 : Nat, a11 ∉ hL S8 → ∀ S12 : HS, S12 = nW S8 a11 14 1 → (P_L_law_23 scL scx Q a1 a6 a11 (0 : Int32) (kk + 1 + 118 + 1 + 7 + 1) (nn + 10 + 1517 + 26 + 10664 + 1) S12))) S7)))) S2))
set_option maxRecDepth 20000 in
set_option maxHeartbeats 4000000 in
theorem T_L_law_0 {X : CX} {Q : Int32 → HS → Prop} {scb scL : Nat} {scx : Nat → Int32} (C : Cx X cL_law RL 7 rm_L_law) (E : LE X scb scL scx Q) (ht : LD X) (hn : True) {kk : Nat} {nn : Nat} {S : HS} (h : P_L_law_0 scL scx Q kk nn S) : WS X 7 kk nn 0 [(0, .ref scb)] [] S := by
  obtain ⟨hk, hk2, h⟩ := h
  refine r_new (pc := 0) C nc_L_8 dL_law_0 hk hk2 (fun a1 q17 => ?_)
  refine r_heap (fun S2 eS2 => ?_)
  have h := h a1 q17 S2 eS2
  have g18 := gr_of_new eS2 q17
  have o_a1 := ob_of_new eS2
  refine r_dup (pc := 3) C dL_law_3 rfl ?_
  obtain ⟨hk, hk2, h⟩ := h
  refine r_callIv (pc := 4) C (rest := [.ref a1]) (a := a1) [] yI_X9_init g_24 (c_X9_init h) dL_law_4 rfl rfl (Nat.le_of_ble_eq_true rfl) ⟨by decide, by decide⟩ ⟨hk, hk2⟩ (fun S3 h g4 => ?_)
  have h := h g4
  have o_a1 := gr_ob g4 o_a1
  refine r_astore_n (pc := 7) C dL_law_7 rfl (by decide) (lv' := [(1, .ref a1), (0, .ref scb)]) rfl ?_
  obtain ⟨hk, hk2, h⟩ := h
  refine r_new (pc := 8) C nc_L_16 dL_law_8 hk hk2 (fun a6 q15 => ?_)
  refine r_heap (fun S7 eS7 => ?_)
  have h := h a6 q15 S7 eS7
  have g16 := gr_of_new eS7 q15
  have o_a6 := ob_of_new eS7
  have o_a1 := gr_ob g16 o_a1
  refine r_dup (pc := 11) C dL_law_11 rfl ?_
  obtain ⟨hk, hk2, h⟩ := h
  refine r_callIv (pc := 12) C (rest := [.ref a6]) (a := a6) [] yI_X11_init g_1159 (c_X11_init h) dL_law_12 rfl rfl (Nat.le_of_ble_eq_true rfl) ⟨by decide, by decide⟩ ⟨hk, hk2⟩ (fun S8 h g9 => ?_)
  have h := h g9
  have o_a1 := gr_ob g9 o_a1
  have o_a6 := gr_ob g9 o_a6
  refine r_astore_n (pc := 15) C dL_law_15 rfl (by decide) (lv' := [(2, .ref a6), (1, .ref a1), (0, .ref scb)]) rfl ?_
  refine r_iconst (pc := 16) C (v := (1 : Int32)) dL_law_16 (by decide) ?_
  obtain ⟨hk, hk2, h⟩ := h
  refine r_newa14 (pc := 17) C (N := 1) g_266 dL_law_17 (by decide) (by decide) (by decide) hk hk2 (fun a11 q13 => ?_)
  refine r_heap (fun S12 eS12 => ?_)
  have h := h a11 q13 S12 eS12
  have g14 := gr_of_new eS12 q13
  have o_a11 := ob_of_new eS12
  have o_a1 := gr_ob g14 o_a1
  have o_a6 := gr_ob g14 o_a6
  refine r_astore_n (pc := 19) C dL_law_19 rfl (by decide) (lv' := [(3, .ref a11), (2, .ref a6), (1, .ref a1), (0, .ref scb)]) rfl ?_
  refine r_iconst (pc := 20) C (v := (0 : Int32)) dL_law_20 (by decide) ?_
  refine r_istore (pc := 21) C dL_law_21 (by decide) (lv' := [(4, .int (0 : Int32)), (3, .ref a11), (2, .ref a6), (1, .ref a1), (0, .ref scb)]) rfl ?_
  exact r_sub [4, 3, 2, 1, 0] rfl (T_L_law_23 C E ht hn h)
end
section
theorem sc_nI {v4 x : Int32} {c j : Nat} (hv : v4 = nI (8 * c)) (hx : x = v4 + nI j) : x = nI (8 * c + j) := by rw [hx, hv, nI_add]
theorem sc_in {v4 x k : Int32} {c j L : Nat} (hv : v4 = nI (8 * c)) (hc : 8 * c + 8 ≤ L) (hL : L ≤ 4096) (hx : x = v4 + k) (hj : j < 8) (hk : k = nI j) : vp_in x L := by
  have e : x = nI (8 * c + j) := sc_nI hv (by rw [hx, hk])
  rw [e]
  exact nI_in (by omega) (by omega)
theorem sc_in0 {v4 : Int32} {c L : Nat} (hv : v4 = nI (8 * c)) (hc : 8 * c + 8 ≤ L) (hL : L ≤ 4096) : vp_in v4 L := by
  rw [hv]
  exact nI_in (by omega) (by omega)
/-- what holds at the head of the law's loop, c calls done -/
def LI (v1 v2 v3 : Nat) (v4 : Int32) (kk nn : Nat) (S : HS) (c : Nat) : Prop := IV S ∧ ob S v1 9 ∧ ob S v2 11 ∧ ob S v3 14 ∧ hN S v3 = 1 ∧ TT v1 v2 S ∧ fI S v1 7 = fI S v2 13 ∧ WH v1 v2 S ∧ WRq v1 v2 S ∧ LGx v1 S ∧ v4 = nI (8 * c) ∧ kk ≤ 200 + 35 * c ∧ nn ≤ 13000 + 8200 * c

set_option maxHeartbeats 4000000 in
set_option maxRecDepth 20000 in
theorem a_L_law_216 {scL : Nat} {scx : Nat → Int32} {Q : Int32 → HS → Prop} {X23 : Nat → Nat → Nat → Int32 → Nat → Nat → HS → Prop} {v1 v2 v3 : Nat} {v4 : Int32} {kk nn : Nat} {S : HS} {c : Nat} (hL : scL ≤ 4096) (hc : 8 * c + 8 ≤ scL) (hb : ∀ x : Int32, x = v4 + (8 : Int32) → ∀ (kk nn : Nat) (T : HS), IV T → ob T v1 9 → ob T v2 11 → ob T v3 14 → hN T v3 = 1 → TT v1 v2 T → fI T v1 7 = fI T v2 13 → WH v1 v2 T → WRq v1 v2 T → LGx v1 T → kk ≤ 200 + 35 * (c + 1) → nn ≤ 13000 + 8200 * (c + 1) → X23 v1 v2 v3 x kk nn T) (h : LI v1 v2 v3 v4 kk nn S c) : P_L_law_216 scL scx Q X23 v1 v2 v3 v4 kk nn S := by
  obtain ⟨hI, o1, o2, o3, l3, tp, fa, wh, wr, lgx, hv, hk, hn⟩ := h
  obtain ⟨AA, GG, DD, dy, wr, gb, ge, td, e6, cd, md, db⟩ := wr
  unfold P_L_law_216
  intro x1 ex1
  refine ⟨sc_in (j := 1) hv hc hL ex1 (by omega) (by decide), ?_⟩
  intro x2 ex2
  intro x3 ex3
  refine ⟨sc_in (j := 2) hv hc hL ex3 (by omega) (by decide), ?_⟩
  intro x4 ex4
  intro x5 ex5
  refine ⟨sc_in (j := 3) hv hc hL ex5 (by omega) (by decide), ?_⟩
  intro x6 ex6
  intro x7 ex7
  refine ⟨sc_in (j := 4) hv hc hL ex7 (by omega) (by decide), ?_⟩
  intro x8 ex8
  intro x9 ex9
  refine ⟨sc_in (j := 5) hv hc hL ex9 (by omega) (by decide), ?_⟩
  intro x10 ex10
  refine ⟨o1, ?_⟩
  refine ⟨by show _ ≤ 601024; omega, by show _ ≤ 7293034; omega, ?_⟩
  have tt0 := tp
  have c1 := o1
  have c2 := o2
  obtain ⟨f9, t9, a9, b9, ht9, TPc, TPm, hab9, hB9⟩ := tp
  refine mz_X9_feed hI o1 TPc ht9 (fun x12 S11 hJ g13 fc14 pp wa1 kz => ?_)
  have wr := wr_keep hI o2 wr kz.1.1 kz.1.2 fc14 (by decide) (by decide) (by decide)
  have td := td_keep o2 td fc14 (by decide)
  have e6 := (fc14.2 9 6 (by decide) (by decide) v1 o1).trans e6
  have cd := cd_keep hI cd kz.2.2 fc14 (by decide) (by decide)
  have md := md_keep hI md kz.2.1 fc14 (by decide) (by decide)
  have lgx := lg_keep o1 lgx g13 fc14 (by decide) (by decide) (by decide)
  have TPd := tp_ft TPm wa1.1 (Ne.symm hab9) (ob_ne TPm.2.2.2.1 o1 (by decide)) (ob_ne o2 TPc.2.2.2.1 (by decide)) (ob_ne o2 o1 (by decide))
  have fa := fa_fri fa o1 o2 fc14 (by decide) (by decide)
  have wh := wh_fri wh o1 o2 fc14 (by decide) (by decide) (by decide)
  have hI := hJ
  have l3 := (gr_len g13 o3).trans l3
  have o1 := gr_ob g13 o1
  have o2 := gr_ob g13 o2
  have o3 := gr_ob g13 o3
  intro _
  intro x15 ex15
  refine ⟨sc_in (j := 1) hv hc hL ex15 (by omega) (by decide), ?_⟩
  intro x16 ex16
  intro x17 ex17
  refine ⟨sc_in (j := 2) hv hc hL ex17 (by omega) (by decide), ?_⟩
  intro x18 ex18
  intro x19 ex19
  refine ⟨sc_in (j := 3) hv hc hL ex19 (by omega) (by decide), ?_⟩
  intro x20 ex20
  intro x21 ex21
  refine ⟨sc_in (j := 4) hv hc hL ex21 (by omega) (by decide), ?_⟩
  intro x22 ex22
  intro x23 ex23
  refine ⟨sc_in (j := 5) hv hc hL ex23 (by omega) (by decide), ?_⟩
  intro x24 ex24
  refine ⟨o2, ?_⟩
  refine ⟨by show _ ≤ 601024; omega, by show _ ≤ 7293034; omega, ?_⟩
  refine mz_X11_feed hI o2 TPd ht9 (fun x26 S25 hJ g27 fc28 pp wa2 kz => ?_)
  have wr := wr_keep hI o2 wr kz.1.1 kz.1.2 fc28 (by decide) (by decide) (by decide)
  have td := td_keep o2 td fc28 (by decide)
  have e6 := (fc28.2 9 6 (by decide) (by decide) v1 o1).trans e6
  have cd := cd_keep hI cd kz.2.2 fc28 (by decide) (by decide)
  have md := md_keep hI md kz.2.1 fc28 (by decide) (by decide)
  have lgx := lg_keep o1 lgx g27 fc28 (by decide) (by decide) (by decide)
  have fe0 := tt_feed c1 c2 ht9 TPc TPm hab9 hB9 wa1.1 wa1.2 wa2.1 (by subst_vars; exact wa2.2)
  have tp := fe0.1
  have fe := fe0.2
  have fa := fa_fri fa o1 o2 fc28 (by decide) (by decide)
  have wh := wh_fri wh o1 o2 fc28 (by decide) (by decide) (by decide)
  have hI := hJ
  have l3 := (gr_len g27 o3).trans l3
  have o1 := gr_ob g27 o1
  have o2 := gr_ob g27 o2
  have o3 := gr_ob g27 o3
  intro _
  unfold P_L_law_2341
  intro x29 ex29
  have back := hb x29 ex29
  exact back _ _ _ hI o1 o2 o3 l3 tp fa wh ⟨AA, GG, _, dy, wr, gb, ge, td, e6, cd, md, db⟩ lgx (by omega) (by omega)
set_option maxHeartbeats 4000000 in
set_option maxRecDepth 20000 in
theorem a_L_law_289 {scL : Nat} {scx : Nat → Int32} {Q : Int32 → HS → Prop} {X23 : Nat → Nat → Nat → Int32 → Nat → Nat → HS → Prop} {v1 v2 v3 : Nat} {v4 : Int32} {kk nn : Nat} {S : HS} {c : Nat} (hL : scL ≤ 4096) (hc : 8 * c + 8 ≤ scL) (hb : ∀ x : Int32, x = v4 + (8 : Int32) → ∀ (kk nn : Nat) (T : HS), IV T → ob T v1 9 → ob T v2 11 → ob T v3 14 → hN T v3 = 1 → TT v1 v2 T → fI T v1 7 = fI T v2 13 → WH v1 v2 T → WRq v1 v2 T → LGx v1 T → kk ≤ 200 + 35 * (c + 1) → nn ≤ 13000 + 8200 * (c + 1) → X23 v1 v2 v3 x kk nn T) (h : LI v1 v2 v3 v4 kk nn S c) : P_L_law_289 scL scx Q X23 v1 v2 v3 v4 kk nn S := by
  obtain ⟨hI, o1, o2, o3, l3, tp, fa, wh, wr, lgx, hv, hk, hn⟩ := h
  obtain ⟨AA, GG, DD, dy, wr, gb, ge, td, e6, cd, md, db⟩ := wr
  unfold P_L_law_289
  intro x30 ex30
  refine ⟨sc_in (j := 1) hv hc hL ex30 (by omega) (by decide), ?_⟩
  intro x31 ex31
  refine ⟨o1, ?_⟩
  refine ⟨by show _ ≤ 601024; omega, by show _ ≤ 7293034; omega, ?_⟩
  have tt0 := tp
  have c1 := o1
  have c2 := o2
  obtain ⟨f9, t9, a9, b9, ht9, TPc, TPm, hab9, hB9⟩ := tp
  have wr0 := wr
  obtain ⟨r9, w9, u9, J9, h91, h92, h93, h94⟩ := wr0
  have hI0 := hI
  refine my_X9_world hI o1 TPc ht9 J9 cd.1 (fun x33 S32 hJ g34 fc35 pp Kg34 wa1 wx1 => ?_)
  have lgx := lg_keep o1 lgx g34 fc35 (by decide) (by decide) (by decide)
  have gw := g34
  have TPd := tp_mid TPm o2 Kg34 fc35 (by decide) (by decide)
  have fp1 := pp
  have Kw := Kg34
  have fw := fc35
  have cw := cd_world hI hJ o1 e6 cd wx1.2.2.2 fc35 (by decide) (by decide) (by decide) (by decide) wx1.2.1
  have xr := xr_w ht9 wa1 wx1.1.1
  have md := md_keep hI md wx1.2.2.1 fc35 (by decide) (by decide)
  have hI := hJ
  have l3 := (gr_len g34 o3).trans l3
  have o1 := gr_ob g34 o1
  have o2 := gr_ob g34 o2
  have o3 := gr_ob g34 o3
  intro _
  intro x36 ex36
  refine ⟨sc_in (j := 1) hv hc hL ex36 (by omega) (by decide), ?_⟩
  intro x37 ex37
  refine ⟨o2, ?_⟩
  refine ⟨by show _ ≤ 601024; omega, by show _ ≤ 7293034; omega, ?_⟩
  refine my_X11_world hI o2 TPd ht9 hB9 (fun x39 S38 hJ g40 fc41 pp Kg40 wa2 wx2 => ?_)
  have lgx := lg_keep o1 lgx g40 fc41 (by decide) (by decide) (by decide)
  have tp := tt_world tt0 c1 c2 Kw Kg40 fw fc41 (by decide) (by decide) (by decide) (by decide) (by decide) (by decide) fp1 (by subst_vars; exact pp)
  have fe := wc_wm ht9 wa1 (by subst_vars; exact wa2)
  have fa := fa_world ht9 wa1 (by subst_vars; exact wa2) fa o1 c2 fw fc41 (by decide) (by decide)
  have wh := wh_world ht9 wa1 (by subst_vars; exact wa2) o1 fc41 (by decide) (by decide)
  have e6 := (fc41.2 9 6 (by decide) (by decide) v1 o1).trans cw.1
  have cdu := cw.2.imp (fun z => And.intro z.1 (cd_keep hI z.2 wx2.2.2.2 fc41 (by decide) (by decide))) (fun z => And.intro z.1 (cd_keep hI z.2 wx2.2.2.2 fc41 (by decide) (by decide)))
  have dwx := dwm_x hJ wx2.2.1
  rw [← fe] at dwx
  have mdu := md_world hI md wx2.2.2.1 fc41 (by decide) (by decide) dwx.1 dwx.2
  have wrx := wr_wq hI0 hI hJ c2 J9 h91 h92 h93 h94 gw wx1.1.2 fw (by decide) (by decide) (by decide) (by decide) g40 wx1.1.1 (by subst_vars; exact wx2.1) gb ge td (fun p hp => rw_gb hp) (fun p hp => rw_gz hp) xr e6 cdu mdu db
  have hI := hJ
  have l3 := (gr_len g40 o3).trans l3
  have o1 := gr_ob g40 o1
  have o2 := gr_ob g40 o2
  have o3 := gr_ob g40 o3
  intro _
  unfold P_L_law_2341
  intro x42 ex42
  have back := hb x42 ex42
  exact back _ _ _ hI o1 o2 o3 l3 tp fa wh wrx lgx (by omega) (by omega)
set_option maxHeartbeats 4000000 in
set_option maxRecDepth 20000 in
theorem a_L_law_314 {scL : Nat} {scx : Nat → Int32} {Q : Int32 → HS → Prop} {X23 : Nat → Nat → Nat → Int32 → Nat → Nat → HS → Prop} {v1 v2 v3 : Nat} {v4 : Int32} {kk nn : Nat} {S : HS} {c : Nat} (hL : scL ≤ 4096) (hc : 8 * c + 8 ≤ scL) (hb : ∀ x : Int32, x = v4 + (8 : Int32) → ∀ (kk nn : Nat) (T : HS), IV T → ob T v1 9 → ob T v2 11 → ob T v3 14 → hN T v3 = 1 → TT v1 v2 T → fI T v1 7 = fI T v2 13 → WH v1 v2 T → WRq v1 v2 T → LGx v1 T → kk ≤ 200 + 35 * (c + 1) → nn ≤ 13000 + 8200 * (c + 1) → X23 v1 v2 v3 x kk nn T) (h : LI v1 v2 v3 v4 kk nn S c) : P_L_law_314 scL scx Q X23 v1 v2 v3 v4 kk nn S := by
  obtain ⟨hI, o1, o2, o3, l3, tp, fa, wh, wr, lgx, hv, hk, hn⟩ := h
  obtain ⟨AA, GG, DD, dy, wr, gb, ge, td, e6, cd, md, db⟩ := wr
  unfold P_L_law_314
  refine ⟨o1, ?_⟩
  refine ⟨by show _ ≤ 601024; omega, by show _ ≤ 7293034; omega, ?_⟩
  refine mv_X9_fault hI o1 (fun x44 S43 hJ g45 pp Kg45 vv1 => ?_)
  subst pp
  intro _
  refine ⟨o2, ?_⟩
  refine ⟨by show _ ≤ 601024; omega, by show _ ≤ 7293034; omega, ?_⟩
  refine mz_X11_fault hI o2 (fun x48 S47 hJ g49 fc50 Kg49 vv2 kz => ?_)
  have wr := wr_keep hI o2 wr kz.1.1 kz.1.2 fc50 (by decide) (by decide) (by decide)
  have td := td_keep o2 td fc50 (by decide)
  have e6 := (fc50.2 9 6 (by decide) (by decide) v1 o1).trans e6
  have cd := cd_keep hI cd kz.2.2 fc50 (by decide) (by decide)
  have md := md_keep hI md kz.2.1 fc50 (by decide) (by decide)
  have lgx := lg_keep o1 lgx g49 fc50 (by decide) (by decide) (by decide)
  have fe := vv1.trans (fa.trans vv2.symm)
  have tp := tt_fri tp o1 o2 Kg49 fc50 (by decide) (by decide) (by decide) (by decide)
  have fa := fa_fri fa o1 o2 fc50 (by decide) (by decide)
  have wh := wh_fri wh o1 o2 fc50 (by decide) (by decide) (by decide)
  have hI := hJ
  have l3 := (gr_len g49 o3).trans l3
  have o1 := gr_ob g49 o1
  have o2 := gr_ob g49 o2
  have o3 := gr_ob g49 o3
  intro _
  unfold P_L_law_2341
  intro x51 ex51
  have back := hb x51 ex51
  exact back _ _ _ hI o1 o2 o3 l3 tp fa wh ⟨AA, GG, _, dy, wr, gb, ge, td, e6, cd, md, db⟩ lgx (by omega) (by omega)
set_option maxHeartbeats 4000000 in
set_option maxRecDepth 20000 in
theorem a_L_law_327 {scL : Nat} {scx : Nat → Int32} {Q : Int32 → HS → Prop} {X23 : Nat → Nat → Nat → Int32 → Nat → Nat → HS → Prop} {v1 v2 v3 : Nat} {v4 : Int32} {kk nn : Nat} {S : HS} {c : Nat} (hL : scL ≤ 4096) (hc : 8 * c + 8 ≤ scL) (hb : ∀ x : Int32, x = v4 + (8 : Int32) → ∀ (kk nn : Nat) (T : HS), IV T → ob T v1 9 → ob T v2 11 → ob T v3 14 → hN T v3 = 1 → TT v1 v2 T → fI T v1 7 = fI T v2 13 → WH v1 v2 T → WRq v1 v2 T → LGx v1 T → kk ≤ 200 + 35 * (c + 1) → nn ≤ 13000 + 8200 * (c + 1) → X23 v1 v2 v3 x kk nn T) (h : LI v1 v2 v3 v4 kk nn S c) : P_L_law_327 scL scx Q X23 v1 v2 v3 v4 kk nn S := by
  obtain ⟨hI, o1, o2, o3, l3, tp, fa, wh, wr, lgx, hv, hk, hn⟩ := h
  obtain ⟨AA, GG, DD, dy, wr, gb, ge, td, e6, cd, md, db⟩ := wr
  unfold P_L_law_327
  refine ⟨o1, ?_⟩
  refine ⟨by show _ ≤ 601024; omega, by show _ ≤ 7293034; omega, ?_⟩
  refine mv_X9_where hI o1 (fun x53 S52 hJ g54 pp Kg54 vv1 => ?_)
  subst pp
  intro _
  refine ⟨o2, ?_⟩
  refine ⟨by show _ ≤ 601024; omega, by show _ ≤ 7293034; omega, ?_⟩
  refine mz_X11_where hI o2 (fun x57 S56 hJ g58 fc59 Kg58 vv2 kz => ?_)
  have wr := wr_keep hI o2 wr kz.1.1 kz.1.2 fc59 (by decide) (by decide) (by decide)
  have td := td_keep o2 td fc59 (by decide)
  have e6 := (fc59.2 9 6 (by decide) (by decide) v1 o1).trans e6
  have cd := cd_keep hI cd kz.2.2 fc59 (by decide) (by decide)
  have md := md_keep hI md kz.2.1 fc59 (by decide) (by decide)
  have lgx := lg_keep o1 lgx g58 fc59 (by decide) (by decide) (by decide)
  have fe := wh_eq wh vv1 vv2
  have tp := tt_fri tp o1 o2 Kg58 fc59 (by decide) (by decide) (by decide) (by decide)
  have fa := fa_fri fa o1 o2 fc59 (by decide) (by decide)
  have wh := wh_fri wh o1 o2 fc59 (by decide) (by decide) (by decide)
  have hI := hJ
  have l3 := (gr_len g58 o3).trans l3
  have o1 := gr_ob g58 o1
  have o2 := gr_ob g58 o2
  have o3 := gr_ob g58 o3
  intro _
  unfold P_L_law_2341
  intro x60 ex60
  have back := hb x60 ex60
  exact back _ _ _ hI o1 o2 o3 l3 tp fa wh ⟨AA, GG, _, dy, wr, gb, ge, td, e6, cd, md, db⟩ lgx (by omega) (by omega)
set_option maxHeartbeats 4000000 in
set_option maxRecDepth 20000 in
theorem a_L_law_340 {scL : Nat} {scx : Nat → Int32} {Q : Int32 → HS → Prop} {X23 : Nat → Nat → Nat → Int32 → Nat → Nat → HS → Prop} {v1 v2 v3 : Nat} {v4 : Int32} {kk nn : Nat} {S : HS} {c : Nat} (hL : scL ≤ 4096) (hc : 8 * c + 8 ≤ scL) (hb : ∀ x : Int32, x = v4 + (8 : Int32) → ∀ (kk nn : Nat) (T : HS), IV T → ob T v1 9 → ob T v2 11 → ob T v3 14 → hN T v3 = 1 → TT v1 v2 T → fI T v1 7 = fI T v2 13 → WH v1 v2 T → WRq v1 v2 T → LGx v1 T → kk ≤ 200 + 35 * (c + 1) → nn ≤ 13000 + 8200 * (c + 1) → X23 v1 v2 v3 x kk nn T) (h : LI v1 v2 v3 v4 kk nn S c) : P_L_law_340 scL scx Q X23 v1 v2 v3 v4 kk nn S := by
  obtain ⟨hI, o1, o2, o3, l3, tp, fa, wh, wr, lgx, hv, hk, hn⟩ := h
  obtain ⟨AA, GG, DD, dy, wr, gb, ge, td, e6, cd, md, db⟩ := wr
  unfold P_L_law_340
  intro x61 ex61
  refine ⟨sc_in (j := 1) hv hc hL ex61 (by omega) (by decide), ?_⟩
  intro x62 ex62
  intro x63 ex63
  refine ⟨sc_in (j := 2) hv hc hL ex63 (by omega) (by decide), ?_⟩
  intro x64 ex64
  intro x65 ex65
  refine ⟨sc_in (j := 3) hv hc hL ex65 (by omega) (by decide), ?_⟩
  intro x66 ex66
  intro x67 ex67
  refine ⟨sc_in (j := 4) hv hc hL ex67 (by omega) (by decide), ?_⟩
  intro x68 ex68
  intro x69 ex69
  refine ⟨sc_in (j := 5) hv hc hL ex69 (by omega) (by decide), ?_⟩
  intro x70 ex70
  intro x71 ex71
  refine ⟨sc_in (j := 6) hv hc hL ex71 (by omega) (by decide), ?_⟩
  intro x72 ex72
  intro x73 ex73
  refine ⟨sc_in (j := 7) hv hc hL ex73 (by omega) (by decide), ?_⟩
  intro x74 ex74
  refine ⟨fun c75 => ?_, fun c75 => ?_⟩
  · unfold P_L_law_393
    refine ⟨o1, ?_⟩
    refine ⟨by show _ ≤ 601024; omega, by show _ ≤ 7293034; omega, ?_⟩
    refine mz_X9_face hI o1 (fun x77 S76 hJ g78 fc79 Kg78 nf1 kz => ?_)
    have wr := wr_keep hI o2 wr kz.1.1 kz.1.2 fc79 (by decide) (by decide) (by decide)
    have td := td_keep o2 td fc79 (by decide)
    have e6 := (fc79.2 9 6 (by decide) (by decide) v1 o1).trans e6
    have cd := cd_keep hI cd kz.2.2 fc79 (by decide) (by decide)
    have md := md_keep hI md kz.2.1 fc79 (by decide) (by decide)
    have lgx := lg_keep o1 lgx g78 fc79 (by decide) (by decide) (by decide)
    have tp := tt_fri tp o1 o2 Kg78 fc79 (by decide) (by decide) (by decide) (by decide)
    have fa := fa_fri fa o1 o2 fc79 (by decide) (by decide)
    have hI := hJ
    have l3 := (gr_len g78 o3).trans l3
    have o1 := gr_ob g78 o1
    have o2 := gr_ob g78 o2
    have o3 := gr_ob g78 o3
    intro _
    intro x80 ex80
    refine ⟨sc_in (j := 1) hv hc hL ex80 (by omega) (by decide), ?_⟩
    intro x81 ex81
    intro x82 ex82
    refine ⟨sc_in (j := 2) hv hc hL ex82 (by omega) (by decide), ?_⟩
    intro x83 ex83
    intro x84 ex84
    refine ⟨sc_in (j := 3) hv hc hL ex84 (by omega) (by decide), ?_⟩
    intro x85 ex85
    intro x86 ex86
    refine ⟨sc_in (j := 4) hv hc hL ex86 (by omega) (by decide), ?_⟩
    intro x87 ex87
    intro x88 ex88
    refine ⟨sc_in (j := 5) hv hc hL ex88 (by omega) (by decide), ?_⟩
    intro x89 ex89
    intro x90 ex90
    refine ⟨sc_in (j := 6) hv hc hL ex90 (by omega) (by decide), ?_⟩
    intro x91 ex91
    intro x92 ex92
    refine ⟨sc_in (j := 7) hv hc hL ex92 (by omega) (by decide), ?_⟩
    intro x93 ex93
    have xy95 : x93 = x74 := by rw [ex93, ex92, ex74, ex73]
    refine ⟨fun c94 => ?_, fun c94 => absurd (xy95.trans c75) c94⟩
    unfold P_L_law_450
    refine ⟨o2, ?_⟩
    refine ⟨by show _ ≤ 601024; omega, by show _ ≤ 7293034; omega, ?_⟩
    refine mz_X11_face hI o2 (fun x97 S96 hJ g98 fc99 Kg98 nf2 kz => ?_)
    have wr := wr_keep hI o2 wr kz.1.1 kz.1.2 fc99 (by decide) (by decide) (by decide)
    have td := td_keep o2 td fc99 (by decide)
    have e6 := (fc99.2 9 6 (by decide) (by decide) v1 o1).trans e6
    have cd := cd_keep hI cd kz.2.2 fc99 (by decide) (by decide)
    have md := md_keep hI md kz.2.1 fc99 (by decide) (by decide)
    have lgx := lg_keep o1 lgx g98 fc99 (by decide) (by decide) (by decide)
    have tp := tt_fri tp o1 o2 Kg98 fc99 (by decide) (by decide) (by decide) (by decide)
    have fa := fa_fri fa o1 o2 fc99 (by decide) (by decide)
    have wh := wh_set nf1 fc99 (by decide) nf2
    have hI := hJ
    have l3 := (gr_len g98 o3).trans l3
    have o1 := gr_ob g98 o1
    have o2 := gr_ob g98 o2
    have o3 := gr_ob g98 o3
    intro _
    unfold P_L_law_2341
    intro x100 ex100
    have back := hb x100 ex100
    exact back _ _ _ hI o1 o2 o3 l3 tp fa wh ⟨AA, GG, _, dy, wr, gb, ge, td, e6, cd, md, db⟩ lgx (by omega) (by omega)
  · unfold P_L_law_393
    refine ⟨o1, ?_⟩
    refine ⟨by show _ ≤ 601024; omega, by show _ ≤ 7293034; omega, ?_⟩
    refine mz_X9_face hI o1 (fun x102 S101 hJ g103 fc104 Kg103 nf1 kz => ?_)
    have wr := wr_keep hI o2 wr kz.1.1 kz.1.2 fc104 (by decide) (by decide) (by decide)
    have td := td_keep o2 td fc104 (by decide)
    have e6 := (fc104.2 9 6 (by decide) (by decide) v1 o1).trans e6
    have cd := cd_keep hI cd kz.2.2 fc104 (by decide) (by decide)
    have md := md_keep hI md kz.2.1 fc104 (by decide) (by decide)
    have lgx := lg_keep o1 lgx g103 fc104 (by decide) (by decide) (by decide)
    have tp := tt_fri tp o1 o2 Kg103 fc104 (by decide) (by decide) (by decide) (by decide)
    have fa := fa_fri fa o1 o2 fc104 (by decide) (by decide)
    have hI := hJ
    have l3 := (gr_len g103 o3).trans l3
    have o1 := gr_ob g103 o1
    have o2 := gr_ob g103 o2
    have o3 := gr_ob g103 o3
    intro _
    intro x105 ex105
    refine ⟨sc_in (j := 1) hv hc hL ex105 (by omega) (by decide), ?_⟩
    intro x106 ex106
    intro x107 ex107
    refine ⟨sc_in (j := 2) hv hc hL ex107 (by omega) (by decide), ?_⟩
    intro x108 ex108
    intro x109 ex109
    refine ⟨sc_in (j := 3) hv hc hL ex109 (by omega) (by decide), ?_⟩
    intro x110 ex110
    intro x111 ex111
    refine ⟨sc_in (j := 4) hv hc hL ex111 (by omega) (by decide), ?_⟩
    intro x112 ex112
    intro x113 ex113
    refine ⟨sc_in (j := 5) hv hc hL ex113 (by omega) (by decide), ?_⟩
    intro x114 ex114
    intro x115 ex115
    refine ⟨sc_in (j := 6) hv hc hL ex115 (by omega) (by decide), ?_⟩
    intro x116 ex116
    intro x117 ex117
    refine ⟨sc_in (j := 7) hv hc hL ex117 (by omega) (by decide), ?_⟩
    intro x118 ex118
    have xy120 : x118 = x74 := by rw [ex118, ex117, ex74, ex73]
    refine ⟨fun c119 => absurd (xy120.symm.trans c119) c75, fun c119 => ?_⟩
    unfold P_L_law_450
    refine ⟨o2, ?_⟩
    refine ⟨by show _ ≤ 601024; omega, by show _ ≤ 7293034; omega, ?_⟩
    refine mz_X11_face hI o2 (fun x122 S121 hJ g123 fc124 Kg123 nf2 kz => ?_)
    have wr := wr_keep hI o2 wr kz.1.1 kz.1.2 fc124 (by decide) (by decide) (by decide)
    have td := td_keep o2 td fc124 (by decide)
    have e6 := (fc124.2 9 6 (by decide) (by decide) v1 o1).trans e6
    have cd := cd_keep hI cd kz.2.2 fc124 (by decide) (by decide)
    have md := md_keep hI md kz.2.1 fc124 (by decide) (by decide)
    have lgx := lg_keep o1 lgx g123 fc124 (by decide) (by decide) (by decide)
    have tp := tt_fri tp o1 o2 Kg123 fc124 (by decide) (by decide) (by decide) (by decide)
    have fa := fa_fri fa o1 o2 fc124 (by decide) (by decide)
    have wh := wh_set nf1 fc124 (by decide) nf2
    have hI := hJ
    have l3 := (gr_len g123 o3).trans l3
    have o1 := gr_ob g123 o1
    have o2 := gr_ob g123 o2
    have o3 := gr_ob g123 o3
    intro _
    unfold P_L_law_2341
    intro x125 ex125
    have back := hb x125 ex125
    exact back _ _ _ hI o1 o2 o3 l3 tp fa wh ⟨AA, GG, _, dy, wr, gb, ge, td, e6, cd, md, db⟩ lgx (by omega) (by omega)
set_option maxHeartbeats 4000000 in
set_option maxRecDepth 20000 in
theorem a_L_law_457 {scL : Nat} {scx : Nat → Int32} {Q : Int32 → HS → Prop} {X23 : Nat → Nat → Nat → Int32 → Nat → Nat → HS → Prop} {v1 v2 v3 : Nat} {v4 : Int32} {kk nn : Nat} {S : HS} {c : Nat} (hL : scL ≤ 4096) (hc : 8 * c + 8 ≤ scL) (hb : ∀ x : Int32, x = v4 + (8 : Int32) → ∀ (kk nn : Nat) (T : HS), IV T → ob T v1 9 → ob T v2 11 → ob T v3 14 → hN T v3 = 1 → TT v1 v2 T → fI T v1 7 = fI T v2 13 → WH v1 v2 T → WRq v1 v2 T → LGx v1 T → kk ≤ 200 + 35 * (c + 1) → nn ≤ 13000 + 8200 * (c + 1) → X23 v1 v2 v3 x kk nn T) (h : LI v1 v2 v3 v4 kk nn S c) : P_L_law_457 scL scx Q X23 v1 v2 v3 v4 kk nn S := by
  obtain ⟨hI, o1, o2, o3, l3, tp, fa, wh, wr, lgx, hv, hk, hn⟩ := h
  obtain ⟨AA, GG, DD, dy, wr, gb, ge, td, e6, cd, md, db⟩ := wr
  unfold P_L_law_457
  intro x126 ex126
  refine ⟨sc_in (j := 1) hv hc hL ex126 (by omega) (by decide), ?_⟩
  intro x127 ex127
  intro x128 ex128
  refine ⟨sc_in (j := 2) hv hc hL ex128 (by omega) (by decide), ?_⟩
  intro x129 ex129
  intro x130 ex130
  refine ⟨sc_in (j := 3) hv hc hL ex130 (by omega) (by decide), ?_⟩
  intro x131 ex131
  intro x132 ex132
  refine ⟨sc_in (j := 4) hv hc hL ex132 (by omega) (by decide), ?_⟩
  intro x133 ex133
  intro x134 ex134
  refine ⟨sc_in (j := 5) hv hc hL ex134 (by omega) (by decide), ?_⟩
  intro x135 ex135
  intro x136 ex136
  refine ⟨sc_in (j := 6) hv hc hL ex136 (by omega) (by decide), ?_⟩
  intro x137 ex137
  refine ⟨fun c138 => ?_, fun c138 => ?_⟩
  · unfold P_L_law_503
    refine ⟨o1, ?_⟩
    refine ⟨by show _ ≤ 601024; omega, by show _ ≤ 7293034; omega, ?_⟩
    refine mz_X9_wet hI o1 (fun x140 S139 hJ g141 fc142 Kg141 nf1 kz => ?_)
    have wr := wr_keep hI o2 wr kz.1.1 kz.1.2 fc142 (by decide) (by decide) (by decide)
    have td := td_keep o2 td fc142 (by decide)
    have e6 := (fc142.2 9 6 (by decide) (by decide) v1 o1).trans e6
    have cd := cd_keep hI cd kz.2.2 fc142 (by decide) (by decide)
    have md := md_keep hI md kz.2.1 fc142 (by decide) (by decide)
    have lgx := lg_keep o1 lgx g141 fc142 (by decide) (by decide) (by decide)
    have tp := tt_fri tp o1 o2 Kg141 fc142 (by decide) (by decide) (by decide) (by decide)
    have fa := fa_fri fa o1 o2 fc142 (by decide) (by decide)
    have hI := hJ
    have l3 := (gr_len g141 o3).trans l3
    have o1 := gr_ob g141 o1
    have o2 := gr_ob g141 o2
    have o3 := gr_ob g141 o3
    intro _
    intro x143 ex143
    refine ⟨sc_in (j := 1) hv hc hL ex143 (by omega) (by decide), ?_⟩
    intro x144 ex144
    intro x145 ex145
    refine ⟨sc_in (j := 2) hv hc hL ex145 (by omega) (by decide), ?_⟩
    intro x146 ex146
    intro x147 ex147
    refine ⟨sc_in (j := 3) hv hc hL ex147 (by omega) (by decide), ?_⟩
    intro x148 ex148
    intro x149 ex149
    refine ⟨sc_in (j := 4) hv hc hL ex149 (by omega) (by decide), ?_⟩
    intro x150 ex150
    intro x151 ex151
    refine ⟨sc_in (j := 5) hv hc hL ex151 (by omega) (by decide), ?_⟩
    intro x152 ex152
    intro x153 ex153
    refine ⟨sc_in (j := 6) hv hc hL ex153 (by omega) (by decide), ?_⟩
    intro x154 ex154
    have xy156 : x154 = x137 := by rw [ex154, ex153, ex137, ex136]
    refine ⟨fun c155 => ?_, fun c155 => absurd (xy156.trans c138) c155⟩
    unfold P_L_law_553
    refine ⟨o2, ?_⟩
    refine ⟨by show _ ≤ 601024; omega, by show _ ≤ 7293034; omega, ?_⟩
    refine mz_X11_wet hI o2 (fun x158 S157 hJ g159 fc160 Kg159 nf2 kz => ?_)
    have wr := wr_keep hI o2 wr kz.1.1 kz.1.2 fc160 (by decide) (by decide) (by decide)
    have td := td_keep o2 td fc160 (by decide)
    have e6 := (fc160.2 9 6 (by decide) (by decide) v1 o1).trans e6
    have cd := cd_keep hI cd kz.2.2 fc160 (by decide) (by decide)
    have md := md_keep hI md kz.2.1 fc160 (by decide) (by decide)
    have lgx := lg_keep o1 lgx g159 fc160 (by decide) (by decide) (by decide)
    have tp := tt_fri tp o1 o2 Kg159 fc160 (by decide) (by decide) (by decide) (by decide)
    have fa := fa_fri fa o1 o2 fc160 (by decide) (by decide)
    have wh := wh_set nf1 fc160 (by decide) nf2
    have hI := hJ
    have l3 := (gr_len g159 o3).trans l3
    have o1 := gr_ob g159 o1
    have o2 := gr_ob g159 o2
    have o3 := gr_ob g159 o3
    intro _
    unfold P_L_law_2341
    intro x161 ex161
    have back := hb x161 ex161
    exact back _ _ _ hI o1 o2 o3 l3 tp fa wh ⟨AA, GG, _, dy, wr, gb, ge, td, e6, cd, md, db⟩ lgx (by omega) (by omega)
  · unfold P_L_law_503
    refine ⟨o1, ?_⟩
    refine ⟨by show _ ≤ 601024; omega, by show _ ≤ 7293034; omega, ?_⟩
    refine mz_X9_wet hI o1 (fun x163 S162 hJ g164 fc165 Kg164 nf1 kz => ?_)
    have wr := wr_keep hI o2 wr kz.1.1 kz.1.2 fc165 (by decide) (by decide) (by decide)
    have td := td_keep o2 td fc165 (by decide)
    have e6 := (fc165.2 9 6 (by decide) (by decide) v1 o1).trans e6
    have cd := cd_keep hI cd kz.2.2 fc165 (by decide) (by decide)
    have md := md_keep hI md kz.2.1 fc165 (by decide) (by decide)
    have lgx := lg_keep o1 lgx g164 fc165 (by decide) (by decide) (by decide)
    have tp := tt_fri tp o1 o2 Kg164 fc165 (by decide) (by decide) (by decide) (by decide)
    have fa := fa_fri fa o1 o2 fc165 (by decide) (by decide)
    have hI := hJ
    have l3 := (gr_len g164 o3).trans l3
    have o1 := gr_ob g164 o1
    have o2 := gr_ob g164 o2
    have o3 := gr_ob g164 o3
    intro _
    intro x166 ex166
    refine ⟨sc_in (j := 1) hv hc hL ex166 (by omega) (by decide), ?_⟩
    intro x167 ex167
    intro x168 ex168
    refine ⟨sc_in (j := 2) hv hc hL ex168 (by omega) (by decide), ?_⟩
    intro x169 ex169
    intro x170 ex170
    refine ⟨sc_in (j := 3) hv hc hL ex170 (by omega) (by decide), ?_⟩
    intro x171 ex171
    intro x172 ex172
    refine ⟨sc_in (j := 4) hv hc hL ex172 (by omega) (by decide), ?_⟩
    intro x173 ex173
    intro x174 ex174
    refine ⟨sc_in (j := 5) hv hc hL ex174 (by omega) (by decide), ?_⟩
    intro x175 ex175
    intro x176 ex176
    refine ⟨sc_in (j := 6) hv hc hL ex176 (by omega) (by decide), ?_⟩
    intro x177 ex177
    have xy179 : x177 = x137 := by rw [ex177, ex176, ex137, ex136]
    refine ⟨fun c178 => absurd (xy179.symm.trans c178) c138, fun c178 => ?_⟩
    unfold P_L_law_553
    refine ⟨o2, ?_⟩
    refine ⟨by show _ ≤ 601024; omega, by show _ ≤ 7293034; omega, ?_⟩
    refine mz_X11_wet hI o2 (fun x181 S180 hJ g182 fc183 Kg182 nf2 kz => ?_)
    have wr := wr_keep hI o2 wr kz.1.1 kz.1.2 fc183 (by decide) (by decide) (by decide)
    have td := td_keep o2 td fc183 (by decide)
    have e6 := (fc183.2 9 6 (by decide) (by decide) v1 o1).trans e6
    have cd := cd_keep hI cd kz.2.2 fc183 (by decide) (by decide)
    have md := md_keep hI md kz.2.1 fc183 (by decide) (by decide)
    have lgx := lg_keep o1 lgx g182 fc183 (by decide) (by decide) (by decide)
    have tp := tt_fri tp o1 o2 Kg182 fc183 (by decide) (by decide) (by decide) (by decide)
    have fa := fa_fri fa o1 o2 fc183 (by decide) (by decide)
    have wh := wh_set nf1 fc183 (by decide) nf2
    have hI := hJ
    have l3 := (gr_len g182 o3).trans l3
    have o1 := gr_ob g182 o1
    have o2 := gr_ob g182 o2
    have o3 := gr_ob g182 o3
    intro _
    unfold P_L_law_2341
    intro x184 ex184
    have back := hb x184 ex184
    exact back _ _ _ hI o1 o2 o3 l3 tp fa wh ⟨AA, GG, _, dy, wr, gb, ge, td, e6, cd, md, db⟩ lgx (by omega) (by omega)
set_option maxHeartbeats 4000000 in
set_option maxRecDepth 20000 in
theorem a_L_law_560 {scL : Nat} {scx : Nat → Int32} {Q : Int32 → HS → Prop} {X23 : Nat → Nat → Nat → Int32 → Nat → Nat → HS → Prop} {v1 v2 v3 : Nat} {v4 : Int32} {kk nn : Nat} {S : HS} {c : Nat} (hL : scL ≤ 4096) (hc : 8 * c + 8 ≤ scL) (hb : ∀ x : Int32, x = v4 + (8 : Int32) → ∀ (kk nn : Nat) (T : HS), IV T → ob T v1 9 → ob T v2 11 → ob T v3 14 → hN T v3 = 1 → TT v1 v2 T → fI T v1 7 = fI T v2 13 → WH v1 v2 T → WRq v1 v2 T → LGx v1 T → kk ≤ 200 + 35 * (c + 1) → nn ≤ 13000 + 8200 * (c + 1) → X23 v1 v2 v3 x kk nn T) (h : LI v1 v2 v3 v4 kk nn S c) : P_L_law_560 scL scx Q X23 v1 v2 v3 v4 kk nn S := by
  obtain ⟨hI, o1, o2, o3, l3, tp, fa, wh, wr, lgx, hv, hk, hn⟩ := h
  obtain ⟨AA, GG, DD, dy, wr, gb, ge, td, e6, cd, md, db⟩ := wr
  unfold P_L_law_560
  intro x185 ex185
  refine ⟨sc_in (j := 1) hv hc hL ex185 (by omega) (by decide), ?_⟩
  intro x186 ex186
  intro x187 ex187
  refine ⟨sc_in (j := 2) hv hc hL ex187 (by omega) (by decide), ?_⟩
  intro x188 ex188
  intro x189 ex189
  refine ⟨sc_in (j := 3) hv hc hL ex189 (by omega) (by decide), ?_⟩
  intro x190 ex190
  intro x191 ex191
  refine ⟨sc_in (j := 4) hv hc hL ex191 (by omega) (by decide), ?_⟩
  intro x192 ex192
  intro x193 ex193
  refine ⟨sc_in (j := 5) hv hc hL ex193 (by omega) (by decide), ?_⟩
  intro x194 ex194
  intro x195 ex195
  refine ⟨sc_in (j := 6) hv hc hL ex195 (by omega) (by decide), ?_⟩
  intro x196 ex196
  refine ⟨fun c197 => ?_, fun c197 => ?_⟩
  · unfold P_L_law_606
    refine ⟨o1, ?_⟩
    refine ⟨by show _ ≤ 601024; omega, by show _ ≤ 7293034; omega, ?_⟩
    refine mz_X9_mean hI o1 (fun x199 S198 hJ g200 fc201 Kg200 nf1 kz => ?_)
    have wr := wr_keep hI o2 wr kz.1.1 kz.1.2 fc201 (by decide) (by decide) (by decide)
    have td := td_keep o2 td fc201 (by decide)
    have e6 := (fc201.2 9 6 (by decide) (by decide) v1 o1).trans e6
    have cd := cd_keep hI cd kz.2.2 fc201 (by decide) (by decide)
    have md := md_keep hI md kz.2.1 fc201 (by decide) (by decide)
    have lgx := lg_keep o1 lgx g200 fc201 (by decide) (by decide) (by decide)
    have tp := tt_fri tp o1 o2 Kg200 fc201 (by decide) (by decide) (by decide) (by decide)
    have fa := fa_fri fa o1 o2 fc201 (by decide) (by decide)
    have hI := hJ
    have l3 := (gr_len g200 o3).trans l3
    have o1 := gr_ob g200 o1
    have o2 := gr_ob g200 o2
    have o3 := gr_ob g200 o3
    intro _
    intro x202 ex202
    refine ⟨sc_in (j := 1) hv hc hL ex202 (by omega) (by decide), ?_⟩
    intro x203 ex203
    intro x204 ex204
    refine ⟨sc_in (j := 2) hv hc hL ex204 (by omega) (by decide), ?_⟩
    intro x205 ex205
    intro x206 ex206
    refine ⟨sc_in (j := 3) hv hc hL ex206 (by omega) (by decide), ?_⟩
    intro x207 ex207
    intro x208 ex208
    refine ⟨sc_in (j := 4) hv hc hL ex208 (by omega) (by decide), ?_⟩
    intro x209 ex209
    intro x210 ex210
    refine ⟨sc_in (j := 5) hv hc hL ex210 (by omega) (by decide), ?_⟩
    intro x211 ex211
    intro x212 ex212
    refine ⟨sc_in (j := 6) hv hc hL ex212 (by omega) (by decide), ?_⟩
    intro x213 ex213
    have xy215 : x213 = x196 := by rw [ex213, ex212, ex196, ex195]
    refine ⟨fun c214 => ?_, fun c214 => absurd (xy215.trans c197) c214⟩
    unfold P_L_law_656
    refine ⟨o2, ?_⟩
    refine ⟨by show _ ≤ 601024; omega, by show _ ≤ 7293034; omega, ?_⟩
    refine mz_X11_mean hI o2 (fun x217 S216 hJ g218 fc219 Kg218 nf2 kz => ?_)
    have wr := wr_keep hI o2 wr kz.1.1 kz.1.2 fc219 (by decide) (by decide) (by decide)
    have td := td_keep o2 td fc219 (by decide)
    have e6 := (fc219.2 9 6 (by decide) (by decide) v1 o1).trans e6
    have cd := cd_keep hI cd kz.2.2 fc219 (by decide) (by decide)
    have md := md_keep hI md kz.2.1 fc219 (by decide) (by decide)
    have lgx := lg_keep o1 lgx g218 fc219 (by decide) (by decide) (by decide)
    have tp := tt_fri tp o1 o2 Kg218 fc219 (by decide) (by decide) (by decide) (by decide)
    have fa := fa_fri fa o1 o2 fc219 (by decide) (by decide)
    have wh := wh_set nf1 fc219 (by decide) nf2
    have hI := hJ
    have l3 := (gr_len g218 o3).trans l3
    have o1 := gr_ob g218 o1
    have o2 := gr_ob g218 o2
    have o3 := gr_ob g218 o3
    intro _
    unfold P_L_law_2341
    intro x220 ex220
    have back := hb x220 ex220
    exact back _ _ _ hI o1 o2 o3 l3 tp fa wh ⟨AA, GG, _, dy, wr, gb, ge, td, e6, cd, md, db⟩ lgx (by omega) (by omega)
  · unfold P_L_law_606
    refine ⟨o1, ?_⟩
    refine ⟨by show _ ≤ 601024; omega, by show _ ≤ 7293034; omega, ?_⟩
    refine mz_X9_mean hI o1 (fun x222 S221 hJ g223 fc224 Kg223 nf1 kz => ?_)
    have wr := wr_keep hI o2 wr kz.1.1 kz.1.2 fc224 (by decide) (by decide) (by decide)
    have td := td_keep o2 td fc224 (by decide)
    have e6 := (fc224.2 9 6 (by decide) (by decide) v1 o1).trans e6
    have cd := cd_keep hI cd kz.2.2 fc224 (by decide) (by decide)
    have md := md_keep hI md kz.2.1 fc224 (by decide) (by decide)
    have lgx := lg_keep o1 lgx g223 fc224 (by decide) (by decide) (by decide)
    have tp := tt_fri tp o1 o2 Kg223 fc224 (by decide) (by decide) (by decide) (by decide)
    have fa := fa_fri fa o1 o2 fc224 (by decide) (by decide)
    have hI := hJ
    have l3 := (gr_len g223 o3).trans l3
    have o1 := gr_ob g223 o1
    have o2 := gr_ob g223 o2
    have o3 := gr_ob g223 o3
    intro _
    intro x225 ex225
    refine ⟨sc_in (j := 1) hv hc hL ex225 (by omega) (by decide), ?_⟩
    intro x226 ex226
    intro x227 ex227
    refine ⟨sc_in (j := 2) hv hc hL ex227 (by omega) (by decide), ?_⟩
    intro x228 ex228
    intro x229 ex229
    refine ⟨sc_in (j := 3) hv hc hL ex229 (by omega) (by decide), ?_⟩
    intro x230 ex230
    intro x231 ex231
    refine ⟨sc_in (j := 4) hv hc hL ex231 (by omega) (by decide), ?_⟩
    intro x232 ex232
    intro x233 ex233
    refine ⟨sc_in (j := 5) hv hc hL ex233 (by omega) (by decide), ?_⟩
    intro x234 ex234
    intro x235 ex235
    refine ⟨sc_in (j := 6) hv hc hL ex235 (by omega) (by decide), ?_⟩
    intro x236 ex236
    have xy238 : x236 = x196 := by rw [ex236, ex235, ex196, ex195]
    refine ⟨fun c237 => absurd (xy238.symm.trans c237) c197, fun c237 => ?_⟩
    unfold P_L_law_656
    refine ⟨o2, ?_⟩
    refine ⟨by show _ ≤ 601024; omega, by show _ ≤ 7293034; omega, ?_⟩
    refine mz_X11_mean hI o2 (fun x240 S239 hJ g241 fc242 Kg241 nf2 kz => ?_)
    have wr := wr_keep hI o2 wr kz.1.1 kz.1.2 fc242 (by decide) (by decide) (by decide)
    have td := td_keep o2 td fc242 (by decide)
    have e6 := (fc242.2 9 6 (by decide) (by decide) v1 o1).trans e6
    have cd := cd_keep hI cd kz.2.2 fc242 (by decide) (by decide)
    have md := md_keep hI md kz.2.1 fc242 (by decide) (by decide)
    have lgx := lg_keep o1 lgx g241 fc242 (by decide) (by decide) (by decide)
    have tp := tt_fri tp o1 o2 Kg241 fc242 (by decide) (by decide) (by decide) (by decide)
    have fa := fa_fri fa o1 o2 fc242 (by decide) (by decide)
    have wh := wh_set nf1 fc242 (by decide) nf2
    have hI := hJ
    have l3 := (gr_len g241 o3).trans l3
    have o1 := gr_ob g241 o1
    have o2 := gr_ob g241 o2
    have o3 := gr_ob g241 o3
    intro _
    unfold P_L_law_2341
    intro x243 ex243
    have back := hb x243 ex243
    exact back _ _ _ hI o1 o2 o3 l3 tp fa wh ⟨AA, GG, _, dy, wr, gb, ge, td, e6, cd, md, db⟩ lgx (by omega) (by omega)
set_option maxHeartbeats 4000000 in
set_option maxRecDepth 20000 in
theorem a_L_law_663 {scL : Nat} {scx : Nat → Int32} {Q : Int32 → HS → Prop} {X23 : Nat → Nat → Nat → Int32 → Nat → Nat → HS → Prop} {v1 v2 v3 : Nat} {v4 : Int32} {kk nn : Nat} {S : HS} {c : Nat} (hL : scL ≤ 4096) (hc : 8 * c + 8 ≤ scL) (hb : ∀ x : Int32, x = v4 + (8 : Int32) → ∀ (kk nn : Nat) (T : HS), IV T → ob T v1 9 → ob T v2 11 → ob T v3 14 → hN T v3 = 1 → TT v1 v2 T → fI T v1 7 = fI T v2 13 → WH v1 v2 T → WRq v1 v2 T → LGx v1 T → kk ≤ 200 + 35 * (c + 1) → nn ≤ 13000 + 8200 * (c + 1) → X23 v1 v2 v3 x kk nn T) (h : LI v1 v2 v3 v4 kk nn S c) : P_L_law_663 scL scx Q X23 v1 v2 v3 v4 kk nn S := by
  obtain ⟨hI, o1, o2, o3, l3, tp, fa, wh, wr, lgx, hv, hk, hn⟩ := h
  obtain ⟨AA, GG, DD, dy, wr, gb, ge, td, e6, cd, md, db⟩ := wr
  unfold P_L_law_663
  intro x244 ex244
  refine ⟨sc_in (j := 1) hv hc hL ex244 (by omega) (by decide), ?_⟩
  intro x245 ex245
  intro x246 ex246
  refine ⟨sc_in (j := 2) hv hc hL ex246 (by omega) (by decide), ?_⟩
  intro x247 ex247
  intro x248 ex248
  refine ⟨sc_in (j := 3) hv hc hL ex248 (by omega) (by decide), ?_⟩
  intro x249 ex249
  refine ⟨o1, ?_⟩
  refine ⟨by show _ ≤ 601024; omega, by show _ ≤ 7293034; omega, ?_⟩
  refine mz_X9_minutes hI o1 (fun x251 S250 hJ g252 fc253 Kg252 nf1 kz => ?_)
  have wr := wr_keep hI o2 wr kz.1.1 kz.1.2 fc253 (by decide) (by decide) (by decide)
  have td := td_keep o2 td fc253 (by decide)
  have e6 := (fc253.2 9 6 (by decide) (by decide) v1 o1).trans e6
  have cd := cd_keep hI cd kz.2.2 fc253 (by decide) (by decide)
  have md := md_keep hI md kz.2.1 fc253 (by decide) (by decide)
  have lgx := lg_keep o1 lgx g252 fc253 (by decide) (by decide) (by decide)
  have tp := tt_fri tp o1 o2 Kg252 fc253 (by decide) (by decide) (by decide) (by decide)
  have fa := fa_fri fa o1 o2 fc253 (by decide) (by decide)
  have hI := hJ
  have l3 := (gr_len g252 o3).trans l3
  have o1 := gr_ob g252 o1
  have o2 := gr_ob g252 o2
  have o3 := gr_ob g252 o3
  intro _
  intro x254 ex254
  refine ⟨sc_in (j := 1) hv hc hL ex254 (by omega) (by decide), ?_⟩
  intro x255 ex255
  intro x256 ex256
  refine ⟨sc_in (j := 2) hv hc hL ex256 (by omega) (by decide), ?_⟩
  intro x257 ex257
  intro x258 ex258
  refine ⟨sc_in (j := 3) hv hc hL ex258 (by omega) (by decide), ?_⟩
  intro x259 ex259
  refine ⟨o2, ?_⟩
  refine ⟨by show _ ≤ 601024; omega, by show _ ≤ 7293034; omega, ?_⟩
  refine mz_X11_minutes hI o2 (fun x261 S260 hJ g262 fc263 Kg262 nf2 kz => ?_)
  have wr := wr_keep hI o2 wr kz.1.1 kz.1.2 fc263 (by decide) (by decide) (by decide)
  have td := td_keep o2 td fc263 (by decide)
  have e6 := (fc263.2 9 6 (by decide) (by decide) v1 o1).trans e6
  have cd := cd_keep hI cd kz.2.2 fc263 (by decide) (by decide)
  have md := md_keep hI md kz.2.1 fc263 (by decide) (by decide)
  have lgx := lg_keep o1 lgx g262 fc263 (by decide) (by decide) (by decide)
  have tp := tt_fri tp o1 o2 Kg262 fc263 (by decide) (by decide) (by decide) (by decide)
  have fa := fa_fri fa o1 o2 fc263 (by decide) (by decide)
  have wh := wh_set nf1 fc263 (by decide) nf2
  have hI := hJ
  have l3 := (gr_len g262 o3).trans l3
  have o1 := gr_ob g262 o1
  have o2 := gr_ob g262 o2
  have o3 := gr_ob g262 o3
  intro _
  unfold P_L_law_2341
  intro x264 ex264
  have back := hb x264 ex264
  exact back _ _ _ hI o1 o2 o3 l3 tp fa wh ⟨AA, GG, _, dy, wr, gb, ge, td, e6, cd, md, db⟩ lgx (by omega) (by omega)
set_option maxHeartbeats 4000000 in
set_option maxRecDepth 20000 in
theorem a_L_law_712 {scL : Nat} {scx : Nat → Int32} {Q : Int32 → HS → Prop} {X23 : Nat → Nat → Nat → Int32 → Nat → Nat → HS → Prop} {v1 v2 v3 : Nat} {v4 : Int32} {kk nn : Nat} {S : HS} {c : Nat} (hL : scL ≤ 4096) (hc : 8 * c + 8 ≤ scL) (hb : ∀ x : Int32, x = v4 + (8 : Int32) → ∀ (kk nn : Nat) (T : HS), IV T → ob T v1 9 → ob T v2 11 → ob T v3 14 → hN T v3 = 1 → TT v1 v2 T → fI T v1 7 = fI T v2 13 → WH v1 v2 T → WRq v1 v2 T → LGx v1 T → kk ≤ 200 + 35 * (c + 1) → nn ≤ 13000 + 8200 * (c + 1) → X23 v1 v2 v3 x kk nn T) (h : LI v1 v2 v3 v4 kk nn S c) : P_L_law_712 scL scx Q X23 v1 v2 v3 v4 kk nn S := by
  obtain ⟨hI, o1, o2, o3, l3, tp, fa, wh, wr, lgx, hv, hk, hn⟩ := h
  obtain ⟨AA, GG, DD, dy, wr, gb, ge, td, e6, cd, md, db⟩ := wr
  unfold P_L_law_712
  intro x265 ex265
  refine ⟨sc_in (j := 1) hv hc hL ex265 (by omega) (by decide), ?_⟩
  intro x266 ex266
  intro x267 ex267
  refine ⟨sc_in (j := 2) hv hc hL ex267 (by omega) (by decide), ?_⟩
  intro x268 ex268
  intro x269 ex269
  refine ⟨sc_in (j := 3) hv hc hL ex269 (by omega) (by decide), ?_⟩
  intro x270 ex270
  refine ⟨o1, ?_⟩
  refine ⟨by show _ ≤ 601024; omega, by show _ ≤ 7293034; omega, ?_⟩
  refine mz_X9_air hI o1 (fun x272 S271 hJ g273 fc274 Kg273 nf1 kz => ?_)
  have wr := wr_keep hI o2 wr kz.1.1 kz.1.2 fc274 (by decide) (by decide) (by decide)
  have td := td_keep o2 td fc274 (by decide)
  have e6 := (fc274.2 9 6 (by decide) (by decide) v1 o1).trans e6
  have cd := cd_keep hI cd kz.2.2 fc274 (by decide) (by decide)
  have md := md_keep hI md kz.2.1 fc274 (by decide) (by decide)
  have lgx := lg_keep o1 lgx g273 fc274 (by decide) (by decide) (by decide)
  have tp := tt_fri tp o1 o2 Kg273 fc274 (by decide) (by decide) (by decide) (by decide)
  have fa := fa_fri fa o1 o2 fc274 (by decide) (by decide)
  have hI := hJ
  have l3 := (gr_len g273 o3).trans l3
  have o1 := gr_ob g273 o1
  have o2 := gr_ob g273 o2
  have o3 := gr_ob g273 o3
  intro _
  intro x275 ex275
  refine ⟨sc_in (j := 1) hv hc hL ex275 (by omega) (by decide), ?_⟩
  intro x276 ex276
  intro x277 ex277
  refine ⟨sc_in (j := 2) hv hc hL ex277 (by omega) (by decide), ?_⟩
  intro x278 ex278
  intro x279 ex279
  refine ⟨sc_in (j := 3) hv hc hL ex279 (by omega) (by decide), ?_⟩
  intro x280 ex280
  refine ⟨o2, ?_⟩
  refine ⟨by show _ ≤ 601024; omega, by show _ ≤ 7293034; omega, ?_⟩
  refine mz_X11_air hI o2 (fun x282 S281 hJ g283 fc284 Kg283 nf2 kz => ?_)
  have wr := wr_keep hI o2 wr kz.1.1 kz.1.2 fc284 (by decide) (by decide) (by decide)
  have td := td_keep o2 td fc284 (by decide)
  have e6 := (fc284.2 9 6 (by decide) (by decide) v1 o1).trans e6
  have cd := cd_keep hI cd kz.2.2 fc284 (by decide) (by decide)
  have md := md_keep hI md kz.2.1 fc284 (by decide) (by decide)
  have lgx := lg_keep o1 lgx g283 fc284 (by decide) (by decide) (by decide)
  have tp := tt_fri tp o1 o2 Kg283 fc284 (by decide) (by decide) (by decide) (by decide)
  have fa := fa_fri fa o1 o2 fc284 (by decide) (by decide)
  have wh := wh_set nf1 fc284 (by decide) nf2
  have hI := hJ
  have l3 := (gr_len g283 o3).trans l3
  have o1 := gr_ob g283 o1
  have o2 := gr_ob g283 o2
  have o3 := gr_ob g283 o3
  intro _
  unfold P_L_law_2341
  intro x285 ex285
  have back := hb x285 ex285
  exact back _ _ _ hI o1 o2 o3 l3 tp fa wh ⟨AA, GG, _, dy, wr, gb, ge, td, e6, cd, md, db⟩ lgx (by omega) (by omega)
set_option maxHeartbeats 4000000 in
set_option maxRecDepth 20000 in
theorem a_L_law_761 {scL : Nat} {scx : Nat → Int32} {Q : Int32 → HS → Prop} {X23 : Nat → Nat → Nat → Int32 → Nat → Nat → HS → Prop} {v1 v2 v3 : Nat} {v4 : Int32} {kk nn : Nat} {S : HS} {c : Nat} (hL : scL ≤ 4096) (hc : 8 * c + 8 ≤ scL) (hb : ∀ x : Int32, x = v4 + (8 : Int32) → ∀ (kk nn : Nat) (T : HS), IV T → ob T v1 9 → ob T v2 11 → ob T v3 14 → hN T v3 = 1 → TT v1 v2 T → fI T v1 7 = fI T v2 13 → WH v1 v2 T → WRq v1 v2 T → LGx v1 T → kk ≤ 200 + 35 * (c + 1) → nn ≤ 13000 + 8200 * (c + 1) → X23 v1 v2 v3 x kk nn T) (h : LI v1 v2 v3 v4 kk nn S c) : P_L_law_761 scL scx Q X23 v1 v2 v3 v4 kk nn S := by
  obtain ⟨hI, o1, o2, o3, l3, tp, fa, wh, wr, lgx, hv, hk, hn⟩ := h
  obtain ⟨AA, GG, DD, dy, wr, gb, ge, td, e6, cd, md, db⟩ := wr
  unfold P_L_law_761
  intro x286 ex286
  refine ⟨sc_in (j := 1) hv hc hL ex286 (by omega) (by decide), ?_⟩
  intro x287 ex287
  intro x288 ex288
  refine ⟨sc_in (j := 2) hv hc hL ex288 (by omega) (by decide), ?_⟩
  intro x289 ex289
  intro x290 ex290
  refine ⟨sc_in (j := 3) hv hc hL ex290 (by omega) (by decide), ?_⟩
  intro x291 ex291
  intro x292 ex292
  refine ⟨sc_in (j := 4) hv hc hL ex292 (by omega) (by decide), ?_⟩
  intro x293 ex293
  intro x294 ex294
  refine ⟨sc_in (j := 5) hv hc hL ex294 (by omega) (by decide), ?_⟩
  intro x295 ex295
  refine ⟨o1, ?_⟩
  refine ⟨by show _ ≤ 601024; omega, by show _ ≤ 7293034; omega, ?_⟩
  refine mz_X9_held hI o1 (fun x297 S296 hJ g298 fc299 Kg298 nf1 kz => ?_)
  have wr := wr_keep hI o2 wr kz.1.1 kz.1.2 fc299 (by decide) (by decide) (by decide)
  have td := td_keep o2 td fc299 (by decide)
  have e6 := (fc299.2 9 6 (by decide) (by decide) v1 o1).trans e6
  have cd := cd_keep hI cd kz.2.2 fc299 (by decide) (by decide)
  have md := md_keep hI md kz.2.1 fc299 (by decide) (by decide)
  have lgx := lg_keep o1 lgx g298 fc299 (by decide) (by decide) (by decide)
  have tp := tt_fri tp o1 o2 Kg298 fc299 (by decide) (by decide) (by decide) (by decide)
  have fa := fa_fri fa o1 o2 fc299 (by decide) (by decide)
  have hI := hJ
  have l3 := (gr_len g298 o3).trans l3
  have o1 := gr_ob g298 o1
  have o2 := gr_ob g298 o2
  have o3 := gr_ob g298 o3
  intro _
  intro x300 ex300
  refine ⟨sc_in (j := 1) hv hc hL ex300 (by omega) (by decide), ?_⟩
  intro x301 ex301
  intro x302 ex302
  refine ⟨sc_in (j := 2) hv hc hL ex302 (by omega) (by decide), ?_⟩
  intro x303 ex303
  intro x304 ex304
  refine ⟨sc_in (j := 3) hv hc hL ex304 (by omega) (by decide), ?_⟩
  intro x305 ex305
  intro x306 ex306
  refine ⟨sc_in (j := 4) hv hc hL ex306 (by omega) (by decide), ?_⟩
  intro x307 ex307
  intro x308 ex308
  refine ⟨sc_in (j := 5) hv hc hL ex308 (by omega) (by decide), ?_⟩
  intro x309 ex309
  refine ⟨o2, ?_⟩
  refine ⟨by show _ ≤ 601024; omega, by show _ ≤ 7293034; omega, ?_⟩
  refine mz_X11_held hI o2 (fun x311 S310 hJ g312 fc313 Kg312 nf2 kz => ?_)
  have wr := wr_keep hI o2 wr kz.1.1 kz.1.2 fc313 (by decide) (by decide) (by decide)
  have td := td_keep o2 td fc313 (by decide)
  have e6 := (fc313.2 9 6 (by decide) (by decide) v1 o1).trans e6
  have cd := cd_keep hI cd kz.2.2 fc313 (by decide) (by decide)
  have md := md_keep hI md kz.2.1 fc313 (by decide) (by decide)
  have lgx := lg_keep o1 lgx g312 fc313 (by decide) (by decide) (by decide)
  have tp := tt_fri tp o1 o2 Kg312 fc313 (by decide) (by decide) (by decide) (by decide)
  have fa := fa_fri fa o1 o2 fc313 (by decide) (by decide)
  have wh := wh_set nf1 fc313 (by decide) nf2
  have hI := hJ
  have l3 := (gr_len g312 o3).trans l3
  have o1 := gr_ob g312 o1
  have o2 := gr_ob g312 o2
  have o3 := gr_ob g312 o3
  intro _
  unfold P_L_law_2341
  intro x314 ex314
  have back := hb x314 ex314
  exact back _ _ _ hI o1 o2 o3 l3 tp fa wh ⟨AA, GG, _, dy, wr, gb, ge, td, e6, cd, md, db⟩ lgx (by omega) (by omega)
set_option maxHeartbeats 4000000 in
set_option maxRecDepth 20000 in
theorem a_L_law_834 {scL : Nat} {scx : Nat → Int32} {Q : Int32 → HS → Prop} {X23 : Nat → Nat → Nat → Int32 → Nat → Nat → HS → Prop} {v1 v2 v3 : Nat} {v4 : Int32} {kk nn : Nat} {S : HS} {c : Nat} (hL : scL ≤ 4096) (hc : 8 * c + 8 ≤ scL) (hb : ∀ x : Int32, x = v4 + (8 : Int32) → ∀ (kk nn : Nat) (T : HS), IV T → ob T v1 9 → ob T v2 11 → ob T v3 14 → hN T v3 = 1 → TT v1 v2 T → fI T v1 7 = fI T v2 13 → WH v1 v2 T → WRq v1 v2 T → LGx v1 T → kk ≤ 200 + 35 * (c + 1) → nn ≤ 13000 + 8200 * (c + 1) → X23 v1 v2 v3 x kk nn T) (h : LI v1 v2 v3 v4 kk nn S c) : P_L_law_834 scL scx Q X23 v1 v2 v3 v4 kk nn S := by
  obtain ⟨hI, o1, o2, o3, l3, tp, fa, wh, wr, lgx, hv, hk, hn⟩ := h
  obtain ⟨AA, GG, DD, dy, wr, gb, ge, td, e6, cd, md, db⟩ := wr
  unfold P_L_law_834
  intro x315 ex315
  refine ⟨sc_in (j := 1) hv hc hL ex315 (by omega) (by decide), ?_⟩
  intro x316 ex316
  intro x317 ex317
  refine ⟨sc_in (j := 2) hv hc hL ex317 (by omega) (by decide), ?_⟩
  intro x318 ex318
  intro x319 ex319
  refine ⟨sc_in (j := 3) hv hc hL ex319 (by omega) (by decide), ?_⟩
  intro x320 ex320
  intro x321 ex321
  refine ⟨sc_in (j := 4) hv hc hL ex321 (by omega) (by decide), ?_⟩
  intro x322 ex322
  refine ⟨o1, ?_⟩
  refine ⟨by show _ ≤ 601024; omega, by show _ ≤ 7293034; omega, ?_⟩
  refine mz_X9_best hI o1 (fun x324 S323 hJ g325 fc326 Kg325 nf1 kz => ?_)
  have wr := wr_keep hI o2 wr kz.1.1 kz.1.2 fc326 (by decide) (by decide) (by decide)
  have td := td_keep o2 td fc326 (by decide)
  have e6 := (fc326.2 9 6 (by decide) (by decide) v1 o1).trans e6
  have cd := cd_keep hI cd kz.2.2 fc326 (by decide) (by decide)
  have md := md_keep hI md kz.2.1 fc326 (by decide) (by decide)
  have lgx := lg_keep o1 lgx g325 fc326 (by decide) (by decide) (by decide)
  have tp := tt_fri tp o1 o2 Kg325 fc326 (by decide) (by decide) (by decide) (by decide)
  have fa := fa_fri fa o1 o2 fc326 (by decide) (by decide)
  have hI := hJ
  have l3 := (gr_len g325 o3).trans l3
  have o1 := gr_ob g325 o1
  have o2 := gr_ob g325 o2
  have o3 := gr_ob g325 o3
  intro _
  intro x327 ex327
  refine ⟨sc_in (j := 1) hv hc hL ex327 (by omega) (by decide), ?_⟩
  intro x328 ex328
  intro x329 ex329
  refine ⟨sc_in (j := 2) hv hc hL ex329 (by omega) (by decide), ?_⟩
  intro x330 ex330
  intro x331 ex331
  refine ⟨sc_in (j := 3) hv hc hL ex331 (by omega) (by decide), ?_⟩
  intro x332 ex332
  intro x333 ex333
  refine ⟨sc_in (j := 4) hv hc hL ex333 (by omega) (by decide), ?_⟩
  intro x334 ex334
  refine ⟨o2, ?_⟩
  refine ⟨by show _ ≤ 601024; omega, by show _ ≤ 7293034; omega, ?_⟩
  refine mz_X11_best hI o2 (fun x336 S335 hJ g337 fc338 Kg337 nf2 kz => ?_)
  have wr := wr_keep hI o2 wr kz.1.1 kz.1.2 fc338 (by decide) (by decide) (by decide)
  have td := td_keep o2 td fc338 (by decide)
  have e6 := (fc338.2 9 6 (by decide) (by decide) v1 o1).trans e6
  have cd := cd_keep hI cd kz.2.2 fc338 (by decide) (by decide)
  have md := md_keep hI md kz.2.1 fc338 (by decide) (by decide)
  have lgx := lg_keep o1 lgx g337 fc338 (by decide) (by decide) (by decide)
  have tp := tt_fri tp o1 o2 Kg337 fc338 (by decide) (by decide) (by decide) (by decide)
  have fa := fa_fri fa o1 o2 fc338 (by decide) (by decide)
  have wh := wh_set nf1 fc338 (by decide) nf2
  have hI := hJ
  have l3 := (gr_len g337 o3).trans l3
  have o1 := gr_ob g337 o1
  have o2 := gr_ob g337 o2
  have o3 := gr_ob g337 o3
  intro _
  unfold P_L_law_2341
  intro x339 ex339
  have back := hb x339 ex339
  exact back _ _ _ hI o1 o2 o3 l3 tp fa wh ⟨AA, GG, _, dy, wr, gb, ge, td, e6, cd, md, db⟩ lgx (by omega) (by omega)
set_option maxHeartbeats 4000000 in
set_option maxRecDepth 20000 in
theorem a_L_law_895 {scL : Nat} {scx : Nat → Int32} {Q : Int32 → HS → Prop} {X23 : Nat → Nat → Nat → Int32 → Nat → Nat → HS → Prop} {v1 v2 v3 : Nat} {v4 : Int32} {kk nn : Nat} {S : HS} {c : Nat} (hL : scL ≤ 4096) (hc : 8 * c + 8 ≤ scL) (hb : ∀ x : Int32, x = v4 + (8 : Int32) → ∀ (kk nn : Nat) (T : HS), IV T → ob T v1 9 → ob T v2 11 → ob T v3 14 → hN T v3 = 1 → TT v1 v2 T → fI T v1 7 = fI T v2 13 → WH v1 v2 T → WRq v1 v2 T → LGx v1 T → kk ≤ 200 + 35 * (c + 1) → nn ≤ 13000 + 8200 * (c + 1) → X23 v1 v2 v3 x kk nn T) (h : LI v1 v2 v3 v4 kk nn S c) : P_L_law_895 scL scx Q X23 v1 v2 v3 v4 kk nn S := by
  obtain ⟨hI, o1, o2, o3, l3, tp, fa, wh, wr, lgx, hv, hk, hn⟩ := h
  obtain ⟨AA, GG, DD, dy, wr, gb, ge, td, e6, cd, md, db⟩ := wr
  unfold P_L_law_895
  intro x340 ex340
  refine ⟨sc_in (j := 1) hv hc hL ex340 (by omega) (by decide), ?_⟩
  intro x341 ex341
  intro x342 ex342
  refine ⟨sc_in (j := 2) hv hc hL ex342 (by omega) (by decide), ?_⟩
  intro x343 ex343
  intro x344 ex344
  refine ⟨sc_in (j := 3) hv hc hL ex344 (by omega) (by decide), ?_⟩
  intro x345 ex345
  intro x346 ex346
  refine ⟨sc_in (j := 4) hv hc hL ex346 (by omega) (by decide), ?_⟩
  intro x347 ex347
  intro x348 ex348
  refine ⟨sc_in (j := 5) hv hc hL ex348 (by omega) (by decide), ?_⟩
  intro x349 ex349
  refine ⟨fun c350 => ?_, fun c350 => ?_⟩
  · unfold P_L_law_934
    refine ⟨o1, ?_⟩
    refine ⟨by show _ ≤ 601024; omega, by show _ ≤ 7293034; omega, ?_⟩
    refine mz_X9_saves hI o1 (fun x352 S351 hJ g353 fc354 Kg353 nf1 kz => ?_)
    have wr := wr_keep hI o2 wr kz.1.1 kz.1.2 fc354 (by decide) (by decide) (by decide)
    have td := td_keep o2 td fc354 (by decide)
    have e6 := (fc354.2 9 6 (by decide) (by decide) v1 o1).trans e6
    have cd := cd_keep hI cd kz.2.2 fc354 (by decide) (by decide)
    have md := md_keep hI md kz.2.1 fc354 (by decide) (by decide)
    have lgx := lg_keep o1 lgx g353 fc354 (by decide) (by decide) (by decide)
    have tp := tt_fri tp o1 o2 Kg353 fc354 (by decide) (by decide) (by decide) (by decide)
    have fa := fa_fri fa o1 o2 fc354 (by decide) (by decide)
    have hI := hJ
    have l3 := (gr_len g353 o3).trans l3
    have o1 := gr_ob g353 o1
    have o2 := gr_ob g353 o2
    have o3 := gr_ob g353 o3
    intro _
    intro x355 ex355
    refine ⟨sc_in (j := 1) hv hc hL ex355 (by omega) (by decide), ?_⟩
    intro x356 ex356
    intro x357 ex357
    refine ⟨sc_in (j := 2) hv hc hL ex357 (by omega) (by decide), ?_⟩
    intro x358 ex358
    intro x359 ex359
    refine ⟨sc_in (j := 3) hv hc hL ex359 (by omega) (by decide), ?_⟩
    intro x360 ex360
    intro x361 ex361
    refine ⟨sc_in (j := 4) hv hc hL ex361 (by omega) (by decide), ?_⟩
    intro x362 ex362
    intro x363 ex363
    refine ⟨sc_in (j := 5) hv hc hL ex363 (by omega) (by decide), ?_⟩
    intro x364 ex364
    have xy366 : x364 = x349 := by rw [ex364, ex363, ex349, ex348]
    refine ⟨fun c365 => ?_, fun c365 => absurd (xy366.trans c350) c365⟩
    unfold P_L_law_977
    refine ⟨o2, ?_⟩
    refine ⟨by show _ ≤ 601024; omega, by show _ ≤ 7293034; omega, ?_⟩
    refine mz_X11_saves hI o2 (fun x368 S367 hJ g369 fc370 Kg369 nf2 kz => ?_)
    have wr := wr_keep hI o2 wr kz.1.1 kz.1.2 fc370 (by decide) (by decide) (by decide)
    have td := td_keep o2 td fc370 (by decide)
    have e6 := (fc370.2 9 6 (by decide) (by decide) v1 o1).trans e6
    have cd := cd_keep hI cd kz.2.2 fc370 (by decide) (by decide)
    have md := md_keep hI md kz.2.1 fc370 (by decide) (by decide)
    have lgx := lg_keep o1 lgx g369 fc370 (by decide) (by decide) (by decide)
    have tp := tt_fri tp o1 o2 Kg369 fc370 (by decide) (by decide) (by decide) (by decide)
    have fa := fa_fri fa o1 o2 fc370 (by decide) (by decide)
    have wh := wh_set nf1 fc370 (by decide) nf2
    have hI := hJ
    have l3 := (gr_len g369 o3).trans l3
    have o1 := gr_ob g369 o1
    have o2 := gr_ob g369 o2
    have o3 := gr_ob g369 o3
    intro _
    unfold P_L_law_2341
    intro x371 ex371
    have back := hb x371 ex371
    exact back _ _ _ hI o1 o2 o3 l3 tp fa wh ⟨AA, GG, _, dy, wr, gb, ge, td, e6, cd, md, db⟩ lgx (by omega) (by omega)
  · unfold P_L_law_934
    refine ⟨o1, ?_⟩
    refine ⟨by show _ ≤ 601024; omega, by show _ ≤ 7293034; omega, ?_⟩
    refine mz_X9_saves hI o1 (fun x373 S372 hJ g374 fc375 Kg374 nf1 kz => ?_)
    have wr := wr_keep hI o2 wr kz.1.1 kz.1.2 fc375 (by decide) (by decide) (by decide)
    have td := td_keep o2 td fc375 (by decide)
    have e6 := (fc375.2 9 6 (by decide) (by decide) v1 o1).trans e6
    have cd := cd_keep hI cd kz.2.2 fc375 (by decide) (by decide)
    have md := md_keep hI md kz.2.1 fc375 (by decide) (by decide)
    have lgx := lg_keep o1 lgx g374 fc375 (by decide) (by decide) (by decide)
    have tp := tt_fri tp o1 o2 Kg374 fc375 (by decide) (by decide) (by decide) (by decide)
    have fa := fa_fri fa o1 o2 fc375 (by decide) (by decide)
    have hI := hJ
    have l3 := (gr_len g374 o3).trans l3
    have o1 := gr_ob g374 o1
    have o2 := gr_ob g374 o2
    have o3 := gr_ob g374 o3
    intro _
    intro x376 ex376
    refine ⟨sc_in (j := 1) hv hc hL ex376 (by omega) (by decide), ?_⟩
    intro x377 ex377
    intro x378 ex378
    refine ⟨sc_in (j := 2) hv hc hL ex378 (by omega) (by decide), ?_⟩
    intro x379 ex379
    intro x380 ex380
    refine ⟨sc_in (j := 3) hv hc hL ex380 (by omega) (by decide), ?_⟩
    intro x381 ex381
    intro x382 ex382
    refine ⟨sc_in (j := 4) hv hc hL ex382 (by omega) (by decide), ?_⟩
    intro x383 ex383
    intro x384 ex384
    refine ⟨sc_in (j := 5) hv hc hL ex384 (by omega) (by decide), ?_⟩
    intro x385 ex385
    have xy387 : x385 = x349 := by rw [ex385, ex384, ex349, ex348]
    refine ⟨fun c386 => absurd (xy387.symm.trans c386) c350, fun c386 => ?_⟩
    unfold P_L_law_977
    refine ⟨o2, ?_⟩
    refine ⟨by show _ ≤ 601024; omega, by show _ ≤ 7293034; omega, ?_⟩
    refine mz_X11_saves hI o2 (fun x389 S388 hJ g390 fc391 Kg390 nf2 kz => ?_)
    have wr := wr_keep hI o2 wr kz.1.1 kz.1.2 fc391 (by decide) (by decide) (by decide)
    have td := td_keep o2 td fc391 (by decide)
    have e6 := (fc391.2 9 6 (by decide) (by decide) v1 o1).trans e6
    have cd := cd_keep hI cd kz.2.2 fc391 (by decide) (by decide)
    have md := md_keep hI md kz.2.1 fc391 (by decide) (by decide)
    have lgx := lg_keep o1 lgx g390 fc391 (by decide) (by decide) (by decide)
    have tp := tt_fri tp o1 o2 Kg390 fc391 (by decide) (by decide) (by decide) (by decide)
    have fa := fa_fri fa o1 o2 fc391 (by decide) (by decide)
    have wh := wh_set nf1 fc391 (by decide) nf2
    have hI := hJ
    have l3 := (gr_len g390 o3).trans l3
    have o1 := gr_ob g390 o1
    have o2 := gr_ob g390 o2
    have o3 := gr_ob g390 o3
    intro _
    unfold P_L_law_2341
    intro x392 ex392
    have back := hb x392 ex392
    exact back _ _ _ hI o1 o2 o3 l3 tp fa wh ⟨AA, GG, _, dy, wr, gb, ge, td, e6, cd, md, db⟩ lgx (by omega) (by omega)
set_option maxHeartbeats 4000000 in
set_option maxRecDepth 20000 in
theorem a_L_law_984 {scL : Nat} {scx : Nat → Int32} {Q : Int32 → HS → Prop} {X23 : Nat → Nat → Nat → Int32 → Nat → Nat → HS → Prop} {v1 v2 v3 : Nat} {v4 : Int32} {kk nn : Nat} {S : HS} {c : Nat} (hL : scL ≤ 4096) (hc : 8 * c + 8 ≤ scL) (hb : ∀ x : Int32, x = v4 + (8 : Int32) → ∀ (kk nn : Nat) (T : HS), IV T → ob T v1 9 → ob T v2 11 → ob T v3 14 → hN T v3 = 1 → TT v1 v2 T → fI T v1 7 = fI T v2 13 → WH v1 v2 T → WRq v1 v2 T → LGx v1 T → kk ≤ 200 + 35 * (c + 1) → nn ≤ 13000 + 8200 * (c + 1) → X23 v1 v2 v3 x kk nn T) (h : LI v1 v2 v3 v4 kk nn S c) : P_L_law_984 scL scx Q X23 v1 v2 v3 v4 kk nn S := by
  obtain ⟨hI, o1, o2, o3, l3, tp, fa, wh, wr, lgx, hv, hk, hn⟩ := h
  obtain ⟨AA, GG, DD, dy, wr, gb, ge, td, e6, cd, md, db⟩ := wr
  unfold P_L_law_984
  intro x393 ex393
  refine ⟨sc_in (j := 1) hv hc hL ex393 (by omega) (by decide), ?_⟩
  intro x394 ex394
  intro x395 ex395
  refine ⟨sc_in (j := 2) hv hc hL ex395 (by omega) (by decide), ?_⟩
  intro x396 ex396
  intro x397 ex397
  refine ⟨sc_in (j := 3) hv hc hL ex397 (by omega) (by decide), ?_⟩
  intro x398 ex398
  intro x399 ex399
  refine ⟨sc_in (j := 4) hv hc hL ex399 (by omega) (by decide), ?_⟩
  intro x400 ex400
  refine ⟨o1, ?_⟩
  refine ⟨by show _ ≤ 601024; omega, by show _ ≤ 7293034; omega, ?_⟩
  refine mz_X9_worst hI o1 (fun x402 S401 hJ g403 fc404 Kg403 nf1 kz => ?_)
  have wr := wr_keep hI o2 wr kz.1.1 kz.1.2 fc404 (by decide) (by decide) (by decide)
  have td := td_keep o2 td fc404 (by decide)
  have e6 := (fc404.2 9 6 (by decide) (by decide) v1 o1).trans e6
  have cd := cd_keep hI cd kz.2.2 fc404 (by decide) (by decide)
  have md := md_keep hI md kz.2.1 fc404 (by decide) (by decide)
  have lgx := lg_keep o1 lgx g403 fc404 (by decide) (by decide) (by decide)
  have tp := tt_fri tp o1 o2 Kg403 fc404 (by decide) (by decide) (by decide) (by decide)
  have fa := fa_fri fa o1 o2 fc404 (by decide) (by decide)
  have hI := hJ
  have l3 := (gr_len g403 o3).trans l3
  have o1 := gr_ob g403 o1
  have o2 := gr_ob g403 o2
  have o3 := gr_ob g403 o3
  intro _
  intro x405 ex405
  refine ⟨sc_in (j := 1) hv hc hL ex405 (by omega) (by decide), ?_⟩
  intro x406 ex406
  intro x407 ex407
  refine ⟨sc_in (j := 2) hv hc hL ex407 (by omega) (by decide), ?_⟩
  intro x408 ex408
  intro x409 ex409
  refine ⟨sc_in (j := 3) hv hc hL ex409 (by omega) (by decide), ?_⟩
  intro x410 ex410
  intro x411 ex411
  refine ⟨sc_in (j := 4) hv hc hL ex411 (by omega) (by decide), ?_⟩
  intro x412 ex412
  refine ⟨o2, ?_⟩
  refine ⟨by show _ ≤ 601024; omega, by show _ ≤ 7293034; omega, ?_⟩
  refine mz_X11_worst hI o2 (fun x414 S413 hJ g415 fc416 Kg415 nf2 kz => ?_)
  have wr := wr_keep hI o2 wr kz.1.1 kz.1.2 fc416 (by decide) (by decide) (by decide)
  have td := td_keep o2 td fc416 (by decide)
  have e6 := (fc416.2 9 6 (by decide) (by decide) v1 o1).trans e6
  have cd := cd_keep hI cd kz.2.2 fc416 (by decide) (by decide)
  have md := md_keep hI md kz.2.1 fc416 (by decide) (by decide)
  have lgx := lg_keep o1 lgx g415 fc416 (by decide) (by decide) (by decide)
  have tp := tt_fri tp o1 o2 Kg415 fc416 (by decide) (by decide) (by decide) (by decide)
  have fa := fa_fri fa o1 o2 fc416 (by decide) (by decide)
  have wh := wh_set nf1 fc416 (by decide) nf2
  have hI := hJ
  have l3 := (gr_len g415 o3).trans l3
  have o1 := gr_ob g415 o1
  have o2 := gr_ob g415 o2
  have o3 := gr_ob g415 o3
  intro _
  unfold P_L_law_2341
  intro x417 ex417
  have back := hb x417 ex417
  exact back _ _ _ hI o1 o2 o3 l3 tp fa wh ⟨AA, GG, _, dy, wr, gb, ge, td, e6, cd, md, db⟩ lgx (by omega) (by omega)
set_option maxHeartbeats 4000000 in
set_option maxRecDepth 20000 in
theorem a_L_law_1045 {scL : Nat} {scx : Nat → Int32} {Q : Int32 → HS → Prop} {X23 : Nat → Nat → Nat → Int32 → Nat → Nat → HS → Prop} {v1 v2 v3 : Nat} {v4 : Int32} {kk nn : Nat} {S : HS} {c : Nat} (hL : scL ≤ 4096) (hc : 8 * c + 8 ≤ scL) (hb : ∀ x : Int32, x = v4 + (8 : Int32) → ∀ (kk nn : Nat) (T : HS), IV T → ob T v1 9 → ob T v2 11 → ob T v3 14 → hN T v3 = 1 → TT v1 v2 T → fI T v1 7 = fI T v2 13 → WH v1 v2 T → WRq v1 v2 T → LGx v1 T → kk ≤ 200 + 35 * (c + 1) → nn ≤ 13000 + 8200 * (c + 1) → X23 v1 v2 v3 x kk nn T) (h : LI v1 v2 v3 v4 kk nn S c) : P_L_law_1045 scL scx Q X23 v1 v2 v3 v4 kk nn S := by
  obtain ⟨hI, o1, o2, o3, l3, tp, fa, wh, wr, lgx, hv, hk, hn⟩ := h
  obtain ⟨AA, GG, DD, dy, wr, gb, ge, td, e6, cd, md, db⟩ := wr
  unfold P_L_law_1045
  intro x418 ex418
  refine ⟨sc_in (j := 1) hv hc hL ex418 (by omega) (by decide), ?_⟩
  intro x419 ex419
  intro x420 ex420
  refine ⟨sc_in (j := 2) hv hc hL ex420 (by omega) (by decide), ?_⟩
  intro x421 ex421
  intro x422 ex422
  refine ⟨sc_in (j := 3) hv hc hL ex422 (by omega) (by decide), ?_⟩
  intro x423 ex423
  intro x424 ex424
  refine ⟨sc_in (j := 4) hv hc hL ex424 (by omega) (by decide), ?_⟩
  intro x425 ex425
  refine ⟨o1, ?_⟩
  refine ⟨by show _ ≤ 601024; omega, by show _ ≤ 7293034; omega, ?_⟩
  refine mz_X9_even hI o1 (fun x427 S426 hJ g428 fc429 Kg428 nf1 kz => ?_)
  have wr := wr_keep hI o2 wr kz.1.1 kz.1.2 fc429 (by decide) (by decide) (by decide)
  have td := td_keep o2 td fc429 (by decide)
  have e6 := (fc429.2 9 6 (by decide) (by decide) v1 o1).trans e6
  have cd := cd_keep hI cd kz.2.2 fc429 (by decide) (by decide)
  have md := md_keep hI md kz.2.1 fc429 (by decide) (by decide)
  have lgx := lg_keep o1 lgx g428 fc429 (by decide) (by decide) (by decide)
  have tp := tt_fri tp o1 o2 Kg428 fc429 (by decide) (by decide) (by decide) (by decide)
  have fa := fa_fri fa o1 o2 fc429 (by decide) (by decide)
  have hI := hJ
  have l3 := (gr_len g428 o3).trans l3
  have o1 := gr_ob g428 o1
  have o2 := gr_ob g428 o2
  have o3 := gr_ob g428 o3
  intro _
  intro x430 ex430
  refine ⟨sc_in (j := 1) hv hc hL ex430 (by omega) (by decide), ?_⟩
  intro x431 ex431
  intro x432 ex432
  refine ⟨sc_in (j := 2) hv hc hL ex432 (by omega) (by decide), ?_⟩
  intro x433 ex433
  intro x434 ex434
  refine ⟨sc_in (j := 3) hv hc hL ex434 (by omega) (by decide), ?_⟩
  intro x435 ex435
  intro x436 ex436
  refine ⟨sc_in (j := 4) hv hc hL ex436 (by omega) (by decide), ?_⟩
  intro x437 ex437
  refine ⟨o2, ?_⟩
  refine ⟨by show _ ≤ 601024; omega, by show _ ≤ 7293034; omega, ?_⟩
  refine mz_X11_even hI o2 (fun x439 S438 hJ g440 fc441 Kg440 nf2 kz => ?_)
  have wr := wr_keep hI o2 wr kz.1.1 kz.1.2 fc441 (by decide) (by decide) (by decide)
  have td := td_keep o2 td fc441 (by decide)
  have e6 := (fc441.2 9 6 (by decide) (by decide) v1 o1).trans e6
  have cd := cd_keep hI cd kz.2.2 fc441 (by decide) (by decide)
  have md := md_keep hI md kz.2.1 fc441 (by decide) (by decide)
  have lgx := lg_keep o1 lgx g440 fc441 (by decide) (by decide) (by decide)
  have tp := tt_fri tp o1 o2 Kg440 fc441 (by decide) (by decide) (by decide) (by decide)
  have fa := fa_fri fa o1 o2 fc441 (by decide) (by decide)
  have wh := wh_set nf1 fc441 (by decide) nf2
  have hI := hJ
  have l3 := (gr_len g440 o3).trans l3
  have o1 := gr_ob g440 o1
  have o2 := gr_ob g440 o2
  have o3 := gr_ob g440 o3
  intro _
  unfold P_L_law_2341
  intro x442 ex442
  have back := hb x442 ex442
  exact back _ _ _ hI o1 o2 o3 l3 tp fa wh ⟨AA, GG, _, dy, wr, gb, ge, td, e6, cd, md, db⟩ lgx (by omega) (by omega)
set_option maxHeartbeats 4000000 in
set_option maxRecDepth 20000 in
theorem a_L_law_1106 {scL : Nat} {scx : Nat → Int32} {Q : Int32 → HS → Prop} {X23 : Nat → Nat → Nat → Int32 → Nat → Nat → HS → Prop} {v1 v2 v3 : Nat} {v4 : Int32} {kk nn : Nat} {S : HS} {c : Nat} (hL : scL ≤ 4096) (hc : 8 * c + 8 ≤ scL) (hb : ∀ x : Int32, x = v4 + (8 : Int32) → ∀ (kk nn : Nat) (T : HS), IV T → ob T v1 9 → ob T v2 11 → ob T v3 14 → hN T v3 = 1 → TT v1 v2 T → fI T v1 7 = fI T v2 13 → WH v1 v2 T → WRq v1 v2 T → LGx v1 T → kk ≤ 200 + 35 * (c + 1) → nn ≤ 13000 + 8200 * (c + 1) → X23 v1 v2 v3 x kk nn T) (h : LI v1 v2 v3 v4 kk nn S c) : P_L_law_1106 scL scx Q X23 v1 v2 v3 v4 kk nn S := by
  obtain ⟨hI, o1, o2, o3, l3, tp, fa, wh, wr, lgx, hv, hk, hn⟩ := h
  obtain ⟨AA, GG, DD, dy, wr, gb, ge, td, e6, cd, md, db⟩ := wr
  unfold P_L_law_1106
  intro x443 ex443
  refine ⟨sc_in (j := 1) hv hc hL ex443 (by omega) (by decide), ?_⟩
  intro x444 ex444
  intro x445 ex445
  refine ⟨sc_in (j := 2) hv hc hL ex445 (by omega) (by decide), ?_⟩
  intro x446 ex446
  intro x447 ex447
  refine ⟨sc_in (j := 3) hv hc hL ex447 (by omega) (by decide), ?_⟩
  intro x448 ex448
  intro x449 ex449
  refine ⟨sc_in (j := 4) hv hc hL ex449 (by omega) (by decide), ?_⟩
  intro x450 ex450
  refine ⟨fun c451 => ?_, fun c451 => ?_⟩
  · unfold P_L_law_1139
    refine ⟨o1, ?_⟩
    refine ⟨by show _ ≤ 601024; omega, by show _ ≤ 7293034; omega, ?_⟩
    refine mz_X9_round hI o1 (fun x453 S452 hJ g454 fc455 Kg454 nf1 kz => ?_)
    have wr := wr_keep hI o2 wr kz.1.1 kz.1.2 fc455 (by decide) (by decide) (by decide)
    have td := td_keep o2 td fc455 (by decide)
    have e6 := (fc455.2 9 6 (by decide) (by decide) v1 o1).trans e6
    have cd := cd_keep hI cd kz.2.2 fc455 (by decide) (by decide)
    have md := md_keep hI md kz.2.1 fc455 (by decide) (by decide)
    have lgx := lg_keep o1 lgx g454 fc455 (by decide) (by decide) (by decide)
    have tp := tt_fri tp o1 o2 Kg454 fc455 (by decide) (by decide) (by decide) (by decide)
    have fa := fa_fri fa o1 o2 fc455 (by decide) (by decide)
    have hI := hJ
    have l3 := (gr_len g454 o3).trans l3
    have o1 := gr_ob g454 o1
    have o2 := gr_ob g454 o2
    have o3 := gr_ob g454 o3
    intro _
    intro x456 ex456
    refine ⟨sc_in (j := 1) hv hc hL ex456 (by omega) (by decide), ?_⟩
    intro x457 ex457
    intro x458 ex458
    refine ⟨sc_in (j := 2) hv hc hL ex458 (by omega) (by decide), ?_⟩
    intro x459 ex459
    intro x460 ex460
    refine ⟨sc_in (j := 3) hv hc hL ex460 (by omega) (by decide), ?_⟩
    intro x461 ex461
    intro x462 ex462
    refine ⟨sc_in (j := 4) hv hc hL ex462 (by omega) (by decide), ?_⟩
    intro x463 ex463
    have xy465 : x463 = x450 := by rw [ex463, ex462, ex450, ex449]
    refine ⟨fun c464 => ?_, fun c464 => absurd (xy465.trans c451) c464⟩
    unfold P_L_law_1176
    refine ⟨o2, ?_⟩
    refine ⟨by show _ ≤ 601024; omega, by show _ ≤ 7293034; omega, ?_⟩
    refine mz_X11_round hI o2 (fun x467 S466 hJ g468 fc469 Kg468 nf2 kz => ?_)
    have wr := wr_keep hI o2 wr kz.1.1 kz.1.2 fc469 (by decide) (by decide) (by decide)
    have td := td_keep o2 td fc469 (by decide)
    have e6 := (fc469.2 9 6 (by decide) (by decide) v1 o1).trans e6
    have cd := cd_keep hI cd kz.2.2 fc469 (by decide) (by decide)
    have md := md_keep hI md kz.2.1 fc469 (by decide) (by decide)
    have lgx := lg_keep o1 lgx g468 fc469 (by decide) (by decide) (by decide)
    have tp := tt_fri tp o1 o2 Kg468 fc469 (by decide) (by decide) (by decide) (by decide)
    have fa := fa_fri fa o1 o2 fc469 (by decide) (by decide)
    have wh := wh_set nf1 fc469 (by decide) nf2
    have hI := hJ
    have l3 := (gr_len g468 o3).trans l3
    have o1 := gr_ob g468 o1
    have o2 := gr_ob g468 o2
    have o3 := gr_ob g468 o3
    intro _
    unfold P_L_law_2341
    intro x470 ex470
    have back := hb x470 ex470
    exact back _ _ _ hI o1 o2 o3 l3 tp fa wh ⟨AA, GG, _, dy, wr, gb, ge, td, e6, cd, md, db⟩ lgx (by omega) (by omega)
  · unfold P_L_law_1139
    refine ⟨o1, ?_⟩
    refine ⟨by show _ ≤ 601024; omega, by show _ ≤ 7293034; omega, ?_⟩
    refine mz_X9_round hI o1 (fun x472 S471 hJ g473 fc474 Kg473 nf1 kz => ?_)
    have wr := wr_keep hI o2 wr kz.1.1 kz.1.2 fc474 (by decide) (by decide) (by decide)
    have td := td_keep o2 td fc474 (by decide)
    have e6 := (fc474.2 9 6 (by decide) (by decide) v1 o1).trans e6
    have cd := cd_keep hI cd kz.2.2 fc474 (by decide) (by decide)
    have md := md_keep hI md kz.2.1 fc474 (by decide) (by decide)
    have lgx := lg_keep o1 lgx g473 fc474 (by decide) (by decide) (by decide)
    have tp := tt_fri tp o1 o2 Kg473 fc474 (by decide) (by decide) (by decide) (by decide)
    have fa := fa_fri fa o1 o2 fc474 (by decide) (by decide)
    have hI := hJ
    have l3 := (gr_len g473 o3).trans l3
    have o1 := gr_ob g473 o1
    have o2 := gr_ob g473 o2
    have o3 := gr_ob g473 o3
    intro _
    intro x475 ex475
    refine ⟨sc_in (j := 1) hv hc hL ex475 (by omega) (by decide), ?_⟩
    intro x476 ex476
    intro x477 ex477
    refine ⟨sc_in (j := 2) hv hc hL ex477 (by omega) (by decide), ?_⟩
    intro x478 ex478
    intro x479 ex479
    refine ⟨sc_in (j := 3) hv hc hL ex479 (by omega) (by decide), ?_⟩
    intro x480 ex480
    intro x481 ex481
    refine ⟨sc_in (j := 4) hv hc hL ex481 (by omega) (by decide), ?_⟩
    intro x482 ex482
    have xy484 : x482 = x450 := by rw [ex482, ex481, ex450, ex449]
    refine ⟨fun c483 => absurd (xy484.symm.trans c483) c451, fun c483 => ?_⟩
    unfold P_L_law_1176
    refine ⟨o2, ?_⟩
    refine ⟨by show _ ≤ 601024; omega, by show _ ≤ 7293034; omega, ?_⟩
    refine mz_X11_round hI o2 (fun x486 S485 hJ g487 fc488 Kg487 nf2 kz => ?_)
    have wr := wr_keep hI o2 wr kz.1.1 kz.1.2 fc488 (by decide) (by decide) (by decide)
    have td := td_keep o2 td fc488 (by decide)
    have e6 := (fc488.2 9 6 (by decide) (by decide) v1 o1).trans e6
    have cd := cd_keep hI cd kz.2.2 fc488 (by decide) (by decide)
    have md := md_keep hI md kz.2.1 fc488 (by decide) (by decide)
    have lgx := lg_keep o1 lgx g487 fc488 (by decide) (by decide) (by decide)
    have tp := tt_fri tp o1 o2 Kg487 fc488 (by decide) (by decide) (by decide) (by decide)
    have fa := fa_fri fa o1 o2 fc488 (by decide) (by decide)
    have wh := wh_set nf1 fc488 (by decide) nf2
    have hI := hJ
    have l3 := (gr_len g487 o3).trans l3
    have o1 := gr_ob g487 o1
    have o2 := gr_ob g487 o2
    have o3 := gr_ob g487 o3
    intro _
    unfold P_L_law_2341
    intro x489 ex489
    have back := hb x489 ex489
    exact back _ _ _ hI o1 o2 o3 l3 tp fa wh ⟨AA, GG, _, dy, wr, gb, ge, td, e6, cd, md, db⟩ lgx (by omega) (by omega)
set_option maxHeartbeats 4000000 in
set_option maxRecDepth 20000 in
theorem a_L_law_1183 {scL : Nat} {scx : Nat → Int32} {Q : Int32 → HS → Prop} {X23 : Nat → Nat → Nat → Int32 → Nat → Nat → HS → Prop} {v1 v2 v3 : Nat} {v4 : Int32} {kk nn : Nat} {S : HS} {c : Nat} (hL : scL ≤ 4096) (hc : 8 * c + 8 ≤ scL) (hb : ∀ x : Int32, x = v4 + (8 : Int32) → ∀ (kk nn : Nat) (T : HS), IV T → ob T v1 9 → ob T v2 11 → ob T v3 14 → hN T v3 = 1 → TT v1 v2 T → fI T v1 7 = fI T v2 13 → WH v1 v2 T → WRq v1 v2 T → LGx v1 T → kk ≤ 200 + 35 * (c + 1) → nn ≤ 13000 + 8200 * (c + 1) → X23 v1 v2 v3 x kk nn T) (h : LI v1 v2 v3 v4 kk nn S c) : P_L_law_1183 scL scx Q X23 v1 v2 v3 v4 kk nn S := by
  obtain ⟨hI, o1, o2, o3, l3, tp, fa, wh, wr, lgx, hv, hk, hn⟩ := h
  obtain ⟨AA, GG, DD, dy, wr, gb, ge, td, e6, cd, md, db⟩ := wr
  unfold P_L_law_1183
  intro x490 ex490
  refine ⟨sc_in (j := 1) hv hc hL ex490 (by omega) (by decide), ?_⟩
  intro x491 ex491
  intro x492 ex492
  refine ⟨sc_in (j := 2) hv hc hL ex492 (by omega) (by decide), ?_⟩
  intro x493 ex493
  intro x494 ex494
  refine ⟨sc_in (j := 3) hv hc hL ex494 (by omega) (by decide), ?_⟩
  intro x495 ex495
  refine ⟨o1, ?_⟩
  refine ⟨by show _ ≤ 601024; omega, by show _ ≤ 7293034; omega, ?_⟩
  refine mz_X9_driest hI o1 (fun x497 S496 hJ g498 fc499 Kg498 nf1 kz => ?_)
  have wr := wr_keep hI o2 wr kz.1.1 kz.1.2 fc499 (by decide) (by decide) (by decide)
  have td := td_keep o2 td fc499 (by decide)
  have e6 := (fc499.2 9 6 (by decide) (by decide) v1 o1).trans e6
  have cd := cd_keep hI cd kz.2.2 fc499 (by decide) (by decide)
  have md := md_keep hI md kz.2.1 fc499 (by decide) (by decide)
  have lgx := lg_keep o1 lgx g498 fc499 (by decide) (by decide) (by decide)
  have tp := tt_fri tp o1 o2 Kg498 fc499 (by decide) (by decide) (by decide) (by decide)
  have fa := fa_fri fa o1 o2 fc499 (by decide) (by decide)
  have hI := hJ
  have l3 := (gr_len g498 o3).trans l3
  have o1 := gr_ob g498 o1
  have o2 := gr_ob g498 o2
  have o3 := gr_ob g498 o3
  intro _
  intro x500 ex500
  refine ⟨sc_in (j := 1) hv hc hL ex500 (by omega) (by decide), ?_⟩
  intro x501 ex501
  intro x502 ex502
  refine ⟨sc_in (j := 2) hv hc hL ex502 (by omega) (by decide), ?_⟩
  intro x503 ex503
  intro x504 ex504
  refine ⟨sc_in (j := 3) hv hc hL ex504 (by omega) (by decide), ?_⟩
  intro x505 ex505
  refine ⟨o2, ?_⟩
  refine ⟨by show _ ≤ 601024; omega, by show _ ≤ 7293034; omega, ?_⟩
  refine mz_X11_driest hI o2 (fun x507 S506 hJ g508 fc509 Kg508 nf2 kz => ?_)
  have wr := wr_keep hI o2 wr kz.1.1 kz.1.2 fc509 (by decide) (by decide) (by decide)
  have td := td_keep o2 td fc509 (by decide)
  have e6 := (fc509.2 9 6 (by decide) (by decide) v1 o1).trans e6
  have cd := cd_keep hI cd kz.2.2 fc509 (by decide) (by decide)
  have md := md_keep hI md kz.2.1 fc509 (by decide) (by decide)
  have lgx := lg_keep o1 lgx g508 fc509 (by decide) (by decide) (by decide)
  have tp := tt_fri tp o1 o2 Kg508 fc509 (by decide) (by decide) (by decide) (by decide)
  have fa := fa_fri fa o1 o2 fc509 (by decide) (by decide)
  have wh := wh_set nf1 fc509 (by decide) nf2
  have hI := hJ
  have l3 := (gr_len g508 o3).trans l3
  have o1 := gr_ob g508 o1
  have o2 := gr_ob g508 o2
  have o3 := gr_ob g508 o3
  intro _
  unfold P_L_law_2341
  intro x510 ex510
  have back := hb x510 ex510
  exact back _ _ _ hI o1 o2 o3 l3 tp fa wh ⟨AA, GG, _, dy, wr, gb, ge, td, e6, cd, md, db⟩ lgx (by omega) (by omega)
set_option maxHeartbeats 4000000 in
set_option maxRecDepth 20000 in
theorem a_L_law_1232 {scL : Nat} {scx : Nat → Int32} {Q : Int32 → HS → Prop} {X23 : Nat → Nat → Nat → Int32 → Nat → Nat → HS → Prop} {v1 v2 v3 : Nat} {v4 : Int32} {kk nn : Nat} {S : HS} {c : Nat} (hL : scL ≤ 4096) (hc : 8 * c + 8 ≤ scL) (hb : ∀ x : Int32, x = v4 + (8 : Int32) → ∀ (kk nn : Nat) (T : HS), IV T → ob T v1 9 → ob T v2 11 → ob T v3 14 → hN T v3 = 1 → TT v1 v2 T → fI T v1 7 = fI T v2 13 → WH v1 v2 T → WRq v1 v2 T → LGx v1 T → kk ≤ 200 + 35 * (c + 1) → nn ≤ 13000 + 8200 * (c + 1) → X23 v1 v2 v3 x kk nn T) (h : LI v1 v2 v3 v4 kk nn S c) : P_L_law_1232 scL scx Q X23 v1 v2 v3 v4 kk nn S := by
  obtain ⟨hI, o1, o2, o3, l3, tp, fa, wh, wr, lgx, hv, hk, hn⟩ := h
  obtain ⟨AA, GG, DD, dy, wr, gb, ge, td, e6, cd, md, db⟩ := wr
  unfold P_L_law_1232
  intro x511 ex511
  refine ⟨sc_in (j := 1) hv hc hL ex511 (by omega) (by decide), ?_⟩
  intro x512 ex512
  intro x513 ex513
  refine ⟨sc_in (j := 2) hv hc hL ex513 (by omega) (by decide), ?_⟩
  intro x514 ex514
  intro x515 ex515
  refine ⟨sc_in (j := 3) hv hc hL ex515 (by omega) (by decide), ?_⟩
  intro x516 ex516
  intro x517 ex517
  refine ⟨sc_in (j := 4) hv hc hL ex517 (by omega) (by decide), ?_⟩
  intro x518 ex518
  intro x519 ex519
  refine ⟨sc_in (j := 5) hv hc hL ex519 (by omega) (by decide), ?_⟩
  intro x520 ex520
  intro x521 ex521
  refine ⟨sc_in (j := 6) hv hc hL ex521 (by omega) (by decide), ?_⟩
  intro x522 ex522
  intro x523 ex523
  refine ⟨sc_in (j := 7) hv hc hL ex523 (by omega) (by decide), ?_⟩
  intro x524 ex524
  refine ⟨fun c525 => ?_, fun c525 => ?_⟩
  · unfold P_L_law_1285
    refine ⟨o1, ?_⟩
    refine ⟨by show _ ≤ 601024; omega, by show _ ≤ 7293034; omega, ?_⟩
    refine mz_X9_lee hI o1 (fun x527 S526 hJ g528 fc529 Kg528 nf1 kz => ?_)
    have wr := wr_keep hI o2 wr kz.1.1 kz.1.2 fc529 (by decide) (by decide) (by decide)
    have td := td_keep o2 td fc529 (by decide)
    have e6 := (fc529.2 9 6 (by decide) (by decide) v1 o1).trans e6
    have cd := cd_keep hI cd kz.2.2 fc529 (by decide) (by decide)
    have md := md_keep hI md kz.2.1 fc529 (by decide) (by decide)
    have lgx := lg_keep o1 lgx g528 fc529 (by decide) (by decide) (by decide)
    have tp := tt_fri tp o1 o2 Kg528 fc529 (by decide) (by decide) (by decide) (by decide)
    have fa := fa_fri fa o1 o2 fc529 (by decide) (by decide)
    have hI := hJ
    have l3 := (gr_len g528 o3).trans l3
    have o1 := gr_ob g528 o1
    have o2 := gr_ob g528 o2
    have o3 := gr_ob g528 o3
    intro _
    intro x530 ex530
    refine ⟨sc_in (j := 1) hv hc hL ex530 (by omega) (by decide), ?_⟩
    intro x531 ex531
    intro x532 ex532
    refine ⟨sc_in (j := 2) hv hc hL ex532 (by omega) (by decide), ?_⟩
    intro x533 ex533
    intro x534 ex534
    refine ⟨sc_in (j := 3) hv hc hL ex534 (by omega) (by decide), ?_⟩
    intro x535 ex535
    intro x536 ex536
    refine ⟨sc_in (j := 4) hv hc hL ex536 (by omega) (by decide), ?_⟩
    intro x537 ex537
    intro x538 ex538
    refine ⟨sc_in (j := 5) hv hc hL ex538 (by omega) (by decide), ?_⟩
    intro x539 ex539
    intro x540 ex540
    refine ⟨sc_in (j := 6) hv hc hL ex540 (by omega) (by decide), ?_⟩
    intro x541 ex541
    intro x542 ex542
    refine ⟨sc_in (j := 7) hv hc hL ex542 (by omega) (by decide), ?_⟩
    intro x543 ex543
    have xy545 : x543 = x524 := by rw [ex543, ex542, ex524, ex523]
    refine ⟨fun c544 => ?_, fun c544 => absurd (xy545.trans c525) c544⟩
    unfold P_L_law_1342
    refine ⟨o2, ?_⟩
    refine ⟨by show _ ≤ 601024; omega, by show _ ≤ 7293034; omega, ?_⟩
    refine mz_X11_lee hI o2 (fun x547 S546 hJ g548 fc549 Kg548 nf2 kz => ?_)
    have wr := wr_keep hI o2 wr kz.1.1 kz.1.2 fc549 (by decide) (by decide) (by decide)
    have td := td_keep o2 td fc549 (by decide)
    have e6 := (fc549.2 9 6 (by decide) (by decide) v1 o1).trans e6
    have cd := cd_keep hI cd kz.2.2 fc549 (by decide) (by decide)
    have md := md_keep hI md kz.2.1 fc549 (by decide) (by decide)
    have lgx := lg_keep o1 lgx g548 fc549 (by decide) (by decide) (by decide)
    have tp := tt_fri tp o1 o2 Kg548 fc549 (by decide) (by decide) (by decide) (by decide)
    have fa := fa_fri fa o1 o2 fc549 (by decide) (by decide)
    have wh := wh_set nf1 fc549 (by decide) nf2
    have hI := hJ
    have l3 := (gr_len g548 o3).trans l3
    have o1 := gr_ob g548 o1
    have o2 := gr_ob g548 o2
    have o3 := gr_ob g548 o3
    intro _
    unfold P_L_law_2341
    intro x550 ex550
    have back := hb x550 ex550
    exact back _ _ _ hI o1 o2 o3 l3 tp fa wh ⟨AA, GG, _, dy, wr, gb, ge, td, e6, cd, md, db⟩ lgx (by omega) (by omega)
  · unfold P_L_law_1285
    refine ⟨o1, ?_⟩
    refine ⟨by show _ ≤ 601024; omega, by show _ ≤ 7293034; omega, ?_⟩
    refine mz_X9_lee hI o1 (fun x552 S551 hJ g553 fc554 Kg553 nf1 kz => ?_)
    have wr := wr_keep hI o2 wr kz.1.1 kz.1.2 fc554 (by decide) (by decide) (by decide)
    have td := td_keep o2 td fc554 (by decide)
    have e6 := (fc554.2 9 6 (by decide) (by decide) v1 o1).trans e6
    have cd := cd_keep hI cd kz.2.2 fc554 (by decide) (by decide)
    have md := md_keep hI md kz.2.1 fc554 (by decide) (by decide)
    have lgx := lg_keep o1 lgx g553 fc554 (by decide) (by decide) (by decide)
    have tp := tt_fri tp o1 o2 Kg553 fc554 (by decide) (by decide) (by decide) (by decide)
    have fa := fa_fri fa o1 o2 fc554 (by decide) (by decide)
    have hI := hJ
    have l3 := (gr_len g553 o3).trans l3
    have o1 := gr_ob g553 o1
    have o2 := gr_ob g553 o2
    have o3 := gr_ob g553 o3
    intro _
    intro x555 ex555
    refine ⟨sc_in (j := 1) hv hc hL ex555 (by omega) (by decide), ?_⟩
    intro x556 ex556
    intro x557 ex557
    refine ⟨sc_in (j := 2) hv hc hL ex557 (by omega) (by decide), ?_⟩
    intro x558 ex558
    intro x559 ex559
    refine ⟨sc_in (j := 3) hv hc hL ex559 (by omega) (by decide), ?_⟩
    intro x560 ex560
    intro x561 ex561
    refine ⟨sc_in (j := 4) hv hc hL ex561 (by omega) (by decide), ?_⟩
    intro x562 ex562
    intro x563 ex563
    refine ⟨sc_in (j := 5) hv hc hL ex563 (by omega) (by decide), ?_⟩
    intro x564 ex564
    intro x565 ex565
    refine ⟨sc_in (j := 6) hv hc hL ex565 (by omega) (by decide), ?_⟩
    intro x566 ex566
    intro x567 ex567
    refine ⟨sc_in (j := 7) hv hc hL ex567 (by omega) (by decide), ?_⟩
    intro x568 ex568
    have xy570 : x568 = x524 := by rw [ex568, ex567, ex524, ex523]
    refine ⟨fun c569 => absurd (xy570.symm.trans c569) c525, fun c569 => ?_⟩
    unfold P_L_law_1342
    refine ⟨o2, ?_⟩
    refine ⟨by show _ ≤ 601024; omega, by show _ ≤ 7293034; omega, ?_⟩
    refine mz_X11_lee hI o2 (fun x572 S571 hJ g573 fc574 Kg573 nf2 kz => ?_)
    have wr := wr_keep hI o2 wr kz.1.1 kz.1.2 fc574 (by decide) (by decide) (by decide)
    have td := td_keep o2 td fc574 (by decide)
    have e6 := (fc574.2 9 6 (by decide) (by decide) v1 o1).trans e6
    have cd := cd_keep hI cd kz.2.2 fc574 (by decide) (by decide)
    have md := md_keep hI md kz.2.1 fc574 (by decide) (by decide)
    have lgx := lg_keep o1 lgx g573 fc574 (by decide) (by decide) (by decide)
    have tp := tt_fri tp o1 o2 Kg573 fc574 (by decide) (by decide) (by decide) (by decide)
    have fa := fa_fri fa o1 o2 fc574 (by decide) (by decide)
    have wh := wh_set nf1 fc574 (by decide) nf2
    have hI := hJ
    have l3 := (gr_len g573 o3).trans l3
    have o1 := gr_ob g573 o1
    have o2 := gr_ob g573 o2
    have o3 := gr_ob g573 o3
    intro _
    unfold P_L_law_2341
    intro x575 ex575
    have back := hb x575 ex575
    exact back _ _ _ hI o1 o2 o3 l3 tp fa wh ⟨AA, GG, _, dy, wr, gb, ge, td, e6, cd, md, db⟩ lgx (by omega) (by omega)
set_option maxHeartbeats 4000000 in
set_option maxRecDepth 20000 in
theorem a_L_law_1349 {scL : Nat} {scx : Nat → Int32} {Q : Int32 → HS → Prop} {X23 : Nat → Nat → Nat → Int32 → Nat → Nat → HS → Prop} {v1 v2 v3 : Nat} {v4 : Int32} {kk nn : Nat} {S : HS} {c : Nat} (hL : scL ≤ 4096) (hc : 8 * c + 8 ≤ scL) (hb : ∀ x : Int32, x = v4 + (8 : Int32) → ∀ (kk nn : Nat) (T : HS), IV T → ob T v1 9 → ob T v2 11 → ob T v3 14 → hN T v3 = 1 → TT v1 v2 T → fI T v1 7 = fI T v2 13 → WH v1 v2 T → WRq v1 v2 T → LGx v1 T → kk ≤ 200 + 35 * (c + 1) → nn ≤ 13000 + 8200 * (c + 1) → X23 v1 v2 v3 x kk nn T) (h : LI v1 v2 v3 v4 kk nn S c) : P_L_law_1349 scL scx Q X23 v1 v2 v3 v4 kk nn S := by
  obtain ⟨hI, o1, o2, o3, l3, tp, fa, wh, wr, lgx, hv, hk, hn⟩ := h
  obtain ⟨AA, GG, DD, dy, wr, gb, ge, td, e6, cd, md, db⟩ := wr
  unfold P_L_law_1349
  intro x576 ex576
  refine ⟨sc_in (j := 1) hv hc hL ex576 (by omega) (by decide), ?_⟩
  intro x577 ex577
  intro x578 ex578
  refine ⟨sc_in (j := 2) hv hc hL ex578 (by omega) (by decide), ?_⟩
  intro x579 ex579
  intro x580 ex580
  refine ⟨sc_in (j := 3) hv hc hL ex580 (by omega) (by decide), ?_⟩
  intro x581 ex581
  intro x582 ex582
  refine ⟨sc_in (j := 4) hv hc hL ex582 (by omega) (by decide), ?_⟩
  intro x583 ex583
  intro x584 ex584
  refine ⟨sc_in (j := 5) hv hc hL ex584 (by omega) (by decide), ?_⟩
  intro x585 ex585
  intro x586 ex586
  refine ⟨sc_in (j := 6) hv hc hL ex586 (by omega) (by decide), ?_⟩
  intro x587 ex587
  refine ⟨o1, ?_⟩
  refine ⟨by show _ ≤ 601024; omega, by show _ ≤ 7293034; omega, ?_⟩
  refine mz_X9_first hI o1 (fun x589 S588 hJ g590 fc591 Kg590 nf1 kz => ?_)
  have wr := wr_keep hI o2 wr kz.1.1 kz.1.2 fc591 (by decide) (by decide) (by decide)
  have td := td_keep o2 td fc591 (by decide)
  have e6 := (fc591.2 9 6 (by decide) (by decide) v1 o1).trans e6
  have cd := cd_keep hI cd kz.2.2 fc591 (by decide) (by decide)
  have md := md_keep hI md kz.2.1 fc591 (by decide) (by decide)
  have lgx := lg_keep o1 lgx g590 fc591 (by decide) (by decide) (by decide)
  have tp := tt_fri tp o1 o2 Kg590 fc591 (by decide) (by decide) (by decide) (by decide)
  have fa := fa_fri fa o1 o2 fc591 (by decide) (by decide)
  have hI := hJ
  have l3 := (gr_len g590 o3).trans l3
  have o1 := gr_ob g590 o1
  have o2 := gr_ob g590 o2
  have o3 := gr_ob g590 o3
  intro _
  intro x592 ex592
  refine ⟨sc_in (j := 1) hv hc hL ex592 (by omega) (by decide), ?_⟩
  intro x593 ex593
  intro x594 ex594
  refine ⟨sc_in (j := 2) hv hc hL ex594 (by omega) (by decide), ?_⟩
  intro x595 ex595
  intro x596 ex596
  refine ⟨sc_in (j := 3) hv hc hL ex596 (by omega) (by decide), ?_⟩
  intro x597 ex597
  intro x598 ex598
  refine ⟨sc_in (j := 4) hv hc hL ex598 (by omega) (by decide), ?_⟩
  intro x599 ex599
  intro x600 ex600
  refine ⟨sc_in (j := 5) hv hc hL ex600 (by omega) (by decide), ?_⟩
  intro x601 ex601
  intro x602 ex602
  refine ⟨sc_in (j := 6) hv hc hL ex602 (by omega) (by decide), ?_⟩
  intro x603 ex603
  refine ⟨o2, ?_⟩
  refine ⟨by show _ ≤ 601024; omega, by show _ ≤ 7293034; omega, ?_⟩
  refine mz_X11_first hI o2 (fun x605 S604 hJ g606 fc607 Kg606 nf2 kz => ?_)
  have wr := wr_keep hI o2 wr kz.1.1 kz.1.2 fc607 (by decide) (by decide) (by decide)
  have td := td_keep o2 td fc607 (by decide)
  have e6 := (fc607.2 9 6 (by decide) (by decide) v1 o1).trans e6
  have cd := cd_keep hI cd kz.2.2 fc607 (by decide) (by decide)
  have md := md_keep hI md kz.2.1 fc607 (by decide) (by decide)
  have lgx := lg_keep o1 lgx g606 fc607 (by decide) (by decide) (by decide)
  have tp := tt_fri tp o1 o2 Kg606 fc607 (by decide) (by decide) (by decide) (by decide)
  have fa := fa_fri fa o1 o2 fc607 (by decide) (by decide)
  have wh := wh_set nf1 fc607 (by decide) nf2
  have hI := hJ
  have l3 := (gr_len g606 o3).trans l3
  have o1 := gr_ob g606 o1
  have o2 := gr_ob g606 o2
  have o3 := gr_ob g606 o3
  intro _
  unfold P_L_law_2341
  intro x608 ex608
  have back := hb x608 ex608
  exact back _ _ _ hI o1 o2 o3 l3 tp fa wh ⟨AA, GG, _, dy, wr, gb, ge, td, e6, cd, md, db⟩ lgx (by omega) (by omega)
set_option maxHeartbeats 4000000 in
set_option maxRecDepth 20000 in
theorem a_L_law_1436 {scL : Nat} {scx : Nat → Int32} {Q : Int32 → HS → Prop} {X23 : Nat → Nat → Nat → Int32 → Nat → Nat → HS → Prop} {v1 v2 v3 : Nat} {v4 : Int32} {kk nn : Nat} {S : HS} {c : Nat} (hL : scL ≤ 4096) (hc : 8 * c + 8 ≤ scL) (hb : ∀ x : Int32, x = v4 + (8 : Int32) → ∀ (kk nn : Nat) (T : HS), IV T → ob T v1 9 → ob T v2 11 → ob T v3 14 → hN T v3 = 1 → TT v1 v2 T → fI T v1 7 = fI T v2 13 → WH v1 v2 T → WRq v1 v2 T → LGx v1 T → kk ≤ 200 + 35 * (c + 1) → nn ≤ 13000 + 8200 * (c + 1) → X23 v1 v2 v3 x kk nn T) (h : LI v1 v2 v3 v4 kk nn S c) : P_L_law_1436 scL scx Q X23 v1 v2 v3 v4 kk nn S := by
  obtain ⟨hI, o1, o2, o3, l3, tp, fa, wh, wr, lgx, hv, hk, hn⟩ := h
  obtain ⟨AA, GG, DD, dy, wr, gb, ge, td, e6, cd, md, db⟩ := wr
  unfold P_L_law_1436
  intro x609 ex609
  refine ⟨sc_in (j := 1) hv hc hL ex609 (by omega) (by decide), ?_⟩
  intro x610 ex610
  intro x611 ex611
  refine ⟨sc_in (j := 2) hv hc hL ex611 (by omega) (by decide), ?_⟩
  intro x612 ex612
  intro x613 ex613
  refine ⟨sc_in (j := 3) hv hc hL ex613 (by omega) (by decide), ?_⟩
  intro x614 ex614
  intro x615 ex615
  refine ⟨sc_in (j := 4) hv hc hL ex615 (by omega) (by decide), ?_⟩
  intro x616 ex616
  intro x617 ex617
  refine ⟨sc_in (j := 5) hv hc hL ex617 (by omega) (by decide), ?_⟩
  intro x618 ex618
  intro x619 ex619
  refine ⟨sc_in (j := 6) hv hc hL ex619 (by omega) (by decide), ?_⟩
  intro x620 ex620
  refine ⟨fun c621 => ?_, fun c621 => ?_⟩
  · unfold P_L_law_1482
    refine ⟨o1, ?_⟩
    refine ⟨by show _ ≤ 601024; omega, by show _ ≤ 7293034; omega, ?_⟩
    refine mz_X9_least hI o1 (fun x623 S622 hJ g624 fc625 Kg624 nf1 kz => ?_)
    have wr := wr_keep hI o2 wr kz.1.1 kz.1.2 fc625 (by decide) (by decide) (by decide)
    have td := td_keep o2 td fc625 (by decide)
    have e6 := (fc625.2 9 6 (by decide) (by decide) v1 o1).trans e6
    have cd := cd_keep hI cd kz.2.2 fc625 (by decide) (by decide)
    have md := md_keep hI md kz.2.1 fc625 (by decide) (by decide)
    have lgx := lg_keep o1 lgx g624 fc625 (by decide) (by decide) (by decide)
    have tp := tt_fri tp o1 o2 Kg624 fc625 (by decide) (by decide) (by decide) (by decide)
    have fa := fa_fri fa o1 o2 fc625 (by decide) (by decide)
    have hI := hJ
    have l3 := (gr_len g624 o3).trans l3
    have o1 := gr_ob g624 o1
    have o2 := gr_ob g624 o2
    have o3 := gr_ob g624 o3
    intro _
    intro x626 ex626
    refine ⟨sc_in (j := 1) hv hc hL ex626 (by omega) (by decide), ?_⟩
    intro x627 ex627
    intro x628 ex628
    refine ⟨sc_in (j := 2) hv hc hL ex628 (by omega) (by decide), ?_⟩
    intro x629 ex629
    intro x630 ex630
    refine ⟨sc_in (j := 3) hv hc hL ex630 (by omega) (by decide), ?_⟩
    intro x631 ex631
    intro x632 ex632
    refine ⟨sc_in (j := 4) hv hc hL ex632 (by omega) (by decide), ?_⟩
    intro x633 ex633
    intro x634 ex634
    refine ⟨sc_in (j := 5) hv hc hL ex634 (by omega) (by decide), ?_⟩
    intro x635 ex635
    intro x636 ex636
    refine ⟨sc_in (j := 6) hv hc hL ex636 (by omega) (by decide), ?_⟩
    intro x637 ex637
    have xy639 : x637 = x620 := by rw [ex637, ex636, ex620, ex619]
    refine ⟨fun c638 => ?_, fun c638 => absurd (xy639.trans c621) c638⟩
    unfold P_L_law_1532
    refine ⟨o2, ?_⟩
    refine ⟨by show _ ≤ 601024; omega, by show _ ≤ 7293034; omega, ?_⟩
    refine mz_X11_least hI o2 (fun x641 S640 hJ g642 fc643 Kg642 nf2 kz => ?_)
    have wr := wr_keep hI o2 wr kz.1.1 kz.1.2 fc643 (by decide) (by decide) (by decide)
    have td := td_keep o2 td fc643 (by decide)
    have e6 := (fc643.2 9 6 (by decide) (by decide) v1 o1).trans e6
    have cd := cd_keep hI cd kz.2.2 fc643 (by decide) (by decide)
    have md := md_keep hI md kz.2.1 fc643 (by decide) (by decide)
    have lgx := lg_keep o1 lgx g642 fc643 (by decide) (by decide) (by decide)
    have tp := tt_fri tp o1 o2 Kg642 fc643 (by decide) (by decide) (by decide) (by decide)
    have fa := fa_fri fa o1 o2 fc643 (by decide) (by decide)
    have wh := wh_set nf1 fc643 (by decide) nf2
    have hI := hJ
    have l3 := (gr_len g642 o3).trans l3
    have o1 := gr_ob g642 o1
    have o2 := gr_ob g642 o2
    have o3 := gr_ob g642 o3
    intro _
    unfold P_L_law_2341
    intro x644 ex644
    have back := hb x644 ex644
    exact back _ _ _ hI o1 o2 o3 l3 tp fa wh ⟨AA, GG, _, dy, wr, gb, ge, td, e6, cd, md, db⟩ lgx (by omega) (by omega)
  · unfold P_L_law_1482
    refine ⟨o1, ?_⟩
    refine ⟨by show _ ≤ 601024; omega, by show _ ≤ 7293034; omega, ?_⟩
    refine mz_X9_least hI o1 (fun x646 S645 hJ g647 fc648 Kg647 nf1 kz => ?_)
    have wr := wr_keep hI o2 wr kz.1.1 kz.1.2 fc648 (by decide) (by decide) (by decide)
    have td := td_keep o2 td fc648 (by decide)
    have e6 := (fc648.2 9 6 (by decide) (by decide) v1 o1).trans e6
    have cd := cd_keep hI cd kz.2.2 fc648 (by decide) (by decide)
    have md := md_keep hI md kz.2.1 fc648 (by decide) (by decide)
    have lgx := lg_keep o1 lgx g647 fc648 (by decide) (by decide) (by decide)
    have tp := tt_fri tp o1 o2 Kg647 fc648 (by decide) (by decide) (by decide) (by decide)
    have fa := fa_fri fa o1 o2 fc648 (by decide) (by decide)
    have hI := hJ
    have l3 := (gr_len g647 o3).trans l3
    have o1 := gr_ob g647 o1
    have o2 := gr_ob g647 o2
    have o3 := gr_ob g647 o3
    intro _
    intro x649 ex649
    refine ⟨sc_in (j := 1) hv hc hL ex649 (by omega) (by decide), ?_⟩
    intro x650 ex650
    intro x651 ex651
    refine ⟨sc_in (j := 2) hv hc hL ex651 (by omega) (by decide), ?_⟩
    intro x652 ex652
    intro x653 ex653
    refine ⟨sc_in (j := 3) hv hc hL ex653 (by omega) (by decide), ?_⟩
    intro x654 ex654
    intro x655 ex655
    refine ⟨sc_in (j := 4) hv hc hL ex655 (by omega) (by decide), ?_⟩
    intro x656 ex656
    intro x657 ex657
    refine ⟨sc_in (j := 5) hv hc hL ex657 (by omega) (by decide), ?_⟩
    intro x658 ex658
    intro x659 ex659
    refine ⟨sc_in (j := 6) hv hc hL ex659 (by omega) (by decide), ?_⟩
    intro x660 ex660
    have xy662 : x660 = x620 := by rw [ex660, ex659, ex620, ex619]
    refine ⟨fun c661 => absurd (xy662.symm.trans c661) c621, fun c661 => ?_⟩
    unfold P_L_law_1532
    refine ⟨o2, ?_⟩
    refine ⟨by show _ ≤ 601024; omega, by show _ ≤ 7293034; omega, ?_⟩
    refine mz_X11_least hI o2 (fun x664 S663 hJ g665 fc666 Kg665 nf2 kz => ?_)
    have wr := wr_keep hI o2 wr kz.1.1 kz.1.2 fc666 (by decide) (by decide) (by decide)
    have td := td_keep o2 td fc666 (by decide)
    have e6 := (fc666.2 9 6 (by decide) (by decide) v1 o1).trans e6
    have cd := cd_keep hI cd kz.2.2 fc666 (by decide) (by decide)
    have md := md_keep hI md kz.2.1 fc666 (by decide) (by decide)
    have lgx := lg_keep o1 lgx g665 fc666 (by decide) (by decide) (by decide)
    have tp := tt_fri tp o1 o2 Kg665 fc666 (by decide) (by decide) (by decide) (by decide)
    have fa := fa_fri fa o1 o2 fc666 (by decide) (by decide)
    have wh := wh_set nf1 fc666 (by decide) nf2
    have hI := hJ
    have l3 := (gr_len g665 o3).trans l3
    have o1 := gr_ob g665 o1
    have o2 := gr_ob g665 o2
    have o3 := gr_ob g665 o3
    intro _
    unfold P_L_law_2341
    intro x667 ex667
    have back := hb x667 ex667
    exact back _ _ _ hI o1 o2 o3 l3 tp fa wh ⟨AA, GG, _, dy, wr, gb, ge, td, e6, cd, md, db⟩ lgx (by omega) (by omega)
set_option maxHeartbeats 4000000 in
set_option maxRecDepth 20000 in
theorem a_L_law_1539 {scL : Nat} {scx : Nat → Int32} {Q : Int32 → HS → Prop} {X23 : Nat → Nat → Nat → Int32 → Nat → Nat → HS → Prop} {v1 v2 v3 : Nat} {v4 : Int32} {kk nn : Nat} {S : HS} {c : Nat} (hL : scL ≤ 4096) (hc : 8 * c + 8 ≤ scL) (hb : ∀ x : Int32, x = v4 + (8 : Int32) → ∀ (kk nn : Nat) (T : HS), IV T → ob T v1 9 → ob T v2 11 → ob T v3 14 → hN T v3 = 1 → TT v1 v2 T → fI T v1 7 = fI T v2 13 → WH v1 v2 T → WRq v1 v2 T → LGx v1 T → kk ≤ 200 + 35 * (c + 1) → nn ≤ 13000 + 8200 * (c + 1) → X23 v1 v2 v3 x kk nn T) (h : LI v1 v2 v3 v4 kk nn S c) : P_L_law_1539 scL scx Q X23 v1 v2 v3 v4 kk nn S := by
  obtain ⟨hI, o1, o2, o3, l3, tp, fa, wh, wr, lgx, hv, hk, hn⟩ := h
  obtain ⟨AA, GG, DD, dy, wr, gb, ge, td, e6, cd, md, db⟩ := wr
  unfold P_L_law_1539
  intro x668 ex668
  refine ⟨sc_in (j := 1) hv hc hL ex668 (by omega) (by decide), ?_⟩
  intro x669 ex669
  intro x670 ex670
  refine ⟨sc_in (j := 2) hv hc hL ex670 (by omega) (by decide), ?_⟩
  intro x671 ex671
  intro x672 ex672
  refine ⟨sc_in (j := 3) hv hc hL ex672 (by omega) (by decide), ?_⟩
  intro x673 ex673
  intro x674 ex674
  refine ⟨sc_in (j := 4) hv hc hL ex674 (by omega) (by decide), ?_⟩
  intro x675 ex675
  intro x676 ex676
  refine ⟨sc_in (j := 5) hv hc hL ex676 (by omega) (by decide), ?_⟩
  intro x677 ex677
  refine ⟨o1, ?_⟩
  refine ⟨by show _ ≤ 601024; omega, by show _ ≤ 7293034; omega, ?_⟩
  refine mz_X9_there hI o1 (fun x679 S678 hJ g680 fc681 Kg680 nf1 kz => ?_)
  have wr := wr_keep hI o2 wr kz.1.1 kz.1.2 fc681 (by decide) (by decide) (by decide)
  have td := td_keep o2 td fc681 (by decide)
  have e6 := (fc681.2 9 6 (by decide) (by decide) v1 o1).trans e6
  have cd := cd_keep hI cd kz.2.2 fc681 (by decide) (by decide)
  have md := md_keep hI md kz.2.1 fc681 (by decide) (by decide)
  have lgx := lg_keep o1 lgx g680 fc681 (by decide) (by decide) (by decide)
  have tp := tt_fri tp o1 o2 Kg680 fc681 (by decide) (by decide) (by decide) (by decide)
  have fa := fa_fri fa o1 o2 fc681 (by decide) (by decide)
  have hI := hJ
  have l3 := (gr_len g680 o3).trans l3
  have o1 := gr_ob g680 o1
  have o2 := gr_ob g680 o2
  have o3 := gr_ob g680 o3
  intro _
  intro x682 ex682
  refine ⟨sc_in (j := 1) hv hc hL ex682 (by omega) (by decide), ?_⟩
  intro x683 ex683
  intro x684 ex684
  refine ⟨sc_in (j := 2) hv hc hL ex684 (by omega) (by decide), ?_⟩
  intro x685 ex685
  intro x686 ex686
  refine ⟨sc_in (j := 3) hv hc hL ex686 (by omega) (by decide), ?_⟩
  intro x687 ex687
  intro x688 ex688
  refine ⟨sc_in (j := 4) hv hc hL ex688 (by omega) (by decide), ?_⟩
  intro x689 ex689
  intro x690 ex690
  refine ⟨sc_in (j := 5) hv hc hL ex690 (by omega) (by decide), ?_⟩
  intro x691 ex691
  refine ⟨o2, ?_⟩
  refine ⟨by show _ ≤ 601024; omega, by show _ ≤ 7293034; omega, ?_⟩
  refine mz_X11_there hI o2 (fun x693 S692 hJ g694 fc695 Kg694 nf2 kz => ?_)
  have wr := wr_keep hI o2 wr kz.1.1 kz.1.2 fc695 (by decide) (by decide) (by decide)
  have td := td_keep o2 td fc695 (by decide)
  have e6 := (fc695.2 9 6 (by decide) (by decide) v1 o1).trans e6
  have cd := cd_keep hI cd kz.2.2 fc695 (by decide) (by decide)
  have md := md_keep hI md kz.2.1 fc695 (by decide) (by decide)
  have lgx := lg_keep o1 lgx g694 fc695 (by decide) (by decide) (by decide)
  have tp := tt_fri tp o1 o2 Kg694 fc695 (by decide) (by decide) (by decide) (by decide)
  have fa := fa_fri fa o1 o2 fc695 (by decide) (by decide)
  have wh := wh_set nf1 fc695 (by decide) nf2
  have hI := hJ
  have l3 := (gr_len g694 o3).trans l3
  have o1 := gr_ob g694 o1
  have o2 := gr_ob g694 o2
  have o3 := gr_ob g694 o3
  intro _
  unfold P_L_law_2341
  intro x696 ex696
  have back := hb x696 ex696
  exact back _ _ _ hI o1 o2 o3 l3 tp fa wh ⟨AA, GG, _, dy, wr, gb, ge, td, e6, cd, md, db⟩ lgx (by omega) (by omega)
set_option maxHeartbeats 4000000 in
set_option maxRecDepth 20000 in
theorem a_L_law_1612 {scL : Nat} {scx : Nat → Int32} {Q : Int32 → HS → Prop} {X23 : Nat → Nat → Nat → Int32 → Nat → Nat → HS → Prop} {v1 v2 v3 : Nat} {v4 : Int32} {kk nn : Nat} {S : HS} {c : Nat} (hL : scL ≤ 4096) (hc : 8 * c + 8 ≤ scL) (hb : ∀ x : Int32, x = v4 + (8 : Int32) → ∀ (kk nn : Nat) (T : HS), IV T → ob T v1 9 → ob T v2 11 → ob T v3 14 → hN T v3 = 1 → TT v1 v2 T → fI T v1 7 = fI T v2 13 → WH v1 v2 T → WRq v1 v2 T → LGx v1 T → kk ≤ 200 + 35 * (c + 1) → nn ≤ 13000 + 8200 * (c + 1) → X23 v1 v2 v3 x kk nn T) (h : LI v1 v2 v3 v4 kk nn S c) : P_L_law_1612 scL scx Q X23 v1 v2 v3 v4 kk nn S := by
  obtain ⟨hI, o1, o2, o3, l3, tp, fa, wh, wr, lgx, hv, hk, hn⟩ := h
  obtain ⟨AA, GG, DD, dy, wr, gb, ge, td, e6, cd, md, db⟩ := wr
  unfold P_L_law_1612
  intro x697 ex697
  refine ⟨sc_in (j := 1) hv hc hL ex697 (by omega) (by decide), ?_⟩
  intro x698 ex698
  intro x699 ex699
  refine ⟨sc_in (j := 2) hv hc hL ex699 (by omega) (by decide), ?_⟩
  intro x700 ex700
  intro x701 ex701
  refine ⟨sc_in (j := 3) hv hc hL ex701 (by omega) (by decide), ?_⟩
  intro x702 ex702
  intro x703 ex703
  refine ⟨sc_in (j := 4) hv hc hL ex703 (by omega) (by decide), ?_⟩
  intro x704 ex704
  intro x705 ex705
  refine ⟨sc_in (j := 5) hv hc hL ex705 (by omega) (by decide), ?_⟩
  intro x706 ex706
  refine ⟨o1, ?_⟩
  refine ⟨by show _ ≤ 601024; omega, by show _ ≤ 7293034; omega, ?_⟩
  refine mz_X9_steps hI o1 (fun x708 S707 hJ g709 fc710 Kg709 nf1 kz => ?_)
  have wr := wr_keep hI o2 wr kz.1.1 kz.1.2 fc710 (by decide) (by decide) (by decide)
  have td := td_keep o2 td fc710 (by decide)
  have e6 := (fc710.2 9 6 (by decide) (by decide) v1 o1).trans e6
  have cd := cd_keep hI cd kz.2.2 fc710 (by decide) (by decide)
  have md := md_keep hI md kz.2.1 fc710 (by decide) (by decide)
  have lgx := lg_keep o1 lgx g709 fc710 (by decide) (by decide) (by decide)
  have tp := tt_fri tp o1 o2 Kg709 fc710 (by decide) (by decide) (by decide) (by decide)
  have fa := fa_fri fa o1 o2 fc710 (by decide) (by decide)
  have hI := hJ
  have l3 := (gr_len g709 o3).trans l3
  have o1 := gr_ob g709 o1
  have o2 := gr_ob g709 o2
  have o3 := gr_ob g709 o3
  intro _
  intro x711 ex711
  refine ⟨sc_in (j := 1) hv hc hL ex711 (by omega) (by decide), ?_⟩
  intro x712 ex712
  intro x713 ex713
  refine ⟨sc_in (j := 2) hv hc hL ex713 (by omega) (by decide), ?_⟩
  intro x714 ex714
  intro x715 ex715
  refine ⟨sc_in (j := 3) hv hc hL ex715 (by omega) (by decide), ?_⟩
  intro x716 ex716
  intro x717 ex717
  refine ⟨sc_in (j := 4) hv hc hL ex717 (by omega) (by decide), ?_⟩
  intro x718 ex718
  intro x719 ex719
  refine ⟨sc_in (j := 5) hv hc hL ex719 (by omega) (by decide), ?_⟩
  intro x720 ex720
  refine ⟨o2, ?_⟩
  refine ⟨by show _ ≤ 601024; omega, by show _ ≤ 7293034; omega, ?_⟩
  refine mz_X11_steps hI o2 (fun x722 S721 hJ g723 fc724 Kg723 nf2 kz => ?_)
  have wr := wr_keep hI o2 wr kz.1.1 kz.1.2 fc724 (by decide) (by decide) (by decide)
  have td := td_keep o2 td fc724 (by decide)
  have e6 := (fc724.2 9 6 (by decide) (by decide) v1 o1).trans e6
  have cd := cd_keep hI cd kz.2.2 fc724 (by decide) (by decide)
  have md := md_keep hI md kz.2.1 fc724 (by decide) (by decide)
  have lgx := lg_keep o1 lgx g723 fc724 (by decide) (by decide) (by decide)
  have tp := tt_fri tp o1 o2 Kg723 fc724 (by decide) (by decide) (by decide) (by decide)
  have fa := fa_fri fa o1 o2 fc724 (by decide) (by decide)
  have wh := wh_set nf1 fc724 (by decide) nf2
  have hI := hJ
  have l3 := (gr_len g723 o3).trans l3
  have o1 := gr_ob g723 o1
  have o2 := gr_ob g723 o2
  have o3 := gr_ob g723 o3
  intro _
  unfold P_L_law_2341
  intro x725 ex725
  have back := hb x725 ex725
  exact back _ _ _ hI o1 o2 o3 l3 tp fa wh ⟨AA, GG, _, dy, wr, gb, ge, td, e6, cd, md, db⟩ lgx (by omega) (by omega)
set_option maxHeartbeats 4000000 in
set_option maxRecDepth 20000 in
theorem a_L_law_1685 {scL : Nat} {scx : Nat → Int32} {Q : Int32 → HS → Prop} {X23 : Nat → Nat → Nat → Int32 → Nat → Nat → HS → Prop} {v1 v2 v3 : Nat} {v4 : Int32} {kk nn : Nat} {S : HS} {c : Nat} (hL : scL ≤ 4096) (hc : 8 * c + 8 ≤ scL) (hb : ∀ x : Int32, x = v4 + (8 : Int32) → ∀ (kk nn : Nat) (T : HS), IV T → ob T v1 9 → ob T v2 11 → ob T v3 14 → hN T v3 = 1 → TT v1 v2 T → fI T v1 7 = fI T v2 13 → WH v1 v2 T → WRq v1 v2 T → LGx v1 T → kk ≤ 200 + 35 * (c + 1) → nn ≤ 13000 + 8200 * (c + 1) → X23 v1 v2 v3 x kk nn T) (h : LI v1 v2 v3 v4 kk nn S c) : P_L_law_1685 scL scx Q X23 v1 v2 v3 v4 kk nn S := by
  obtain ⟨hI, o1, o2, o3, l3, tp, fa, wh, wr, lgx, hv, hk, hn⟩ := h
  obtain ⟨AA, GG, DD, dy, wr, gb, ge, td, e6, cd, md, db⟩ := wr
  unfold P_L_law_1685
  intro x726 ex726
  refine ⟨sc_in (j := 1) hv hc hL ex726 (by omega) (by decide), ?_⟩
  intro x727 ex727
  intro x728 ex728
  refine ⟨sc_in (j := 2) hv hc hL ex728 (by omega) (by decide), ?_⟩
  intro x729 ex729
  intro x730 ex730
  refine ⟨sc_in (j := 3) hv hc hL ex730 (by omega) (by decide), ?_⟩
  intro x731 ex731
  intro x732 ex732
  refine ⟨sc_in (j := 4) hv hc hL ex732 (by omega) (by decide), ?_⟩
  intro x733 ex733
  intro x734 ex734
  refine ⟨sc_in (j := 5) hv hc hL ex734 (by omega) (by decide), ?_⟩
  intro x735 ex735
  intro x736 ex736
  refine ⟨sc_in (j := 6) hv hc hL ex736 (by omega) (by decide), ?_⟩
  intro x737 ex737
  refine ⟨o1, ?_⟩
  refine ⟨by show _ ≤ 601024; omega, by show _ ≤ 7293034; omega, ?_⟩
  refine mz_X9_step hI o1 (fun x739 S738 hJ g740 fc741 Kg740 nf1 kz => ?_)
  have wr := wr_keep hI o2 wr kz.1.1 kz.1.2 fc741 (by decide) (by decide) (by decide)
  have td := td_keep o2 td fc741 (by decide)
  have e6 := (fc741.2 9 6 (by decide) (by decide) v1 o1).trans e6
  have cd := cd_keep hI cd kz.2.2 fc741 (by decide) (by decide)
  have md := md_keep hI md kz.2.1 fc741 (by decide) (by decide)
  have lgx := lg_keep o1 lgx g740 fc741 (by decide) (by decide) (by decide)
  have tp := tt_fri tp o1 o2 Kg740 fc741 (by decide) (by decide) (by decide) (by decide)
  have fa := fa_fri fa o1 o2 fc741 (by decide) (by decide)
  have hI := hJ
  have l3 := (gr_len g740 o3).trans l3
  have o1 := gr_ob g740 o1
  have o2 := gr_ob g740 o2
  have o3 := gr_ob g740 o3
  intro _
  intro x742 ex742
  refine ⟨sc_in (j := 1) hv hc hL ex742 (by omega) (by decide), ?_⟩
  intro x743 ex743
  intro x744 ex744
  refine ⟨sc_in (j := 2) hv hc hL ex744 (by omega) (by decide), ?_⟩
  intro x745 ex745
  intro x746 ex746
  refine ⟨sc_in (j := 3) hv hc hL ex746 (by omega) (by decide), ?_⟩
  intro x747 ex747
  intro x748 ex748
  refine ⟨sc_in (j := 4) hv hc hL ex748 (by omega) (by decide), ?_⟩
  intro x749 ex749
  intro x750 ex750
  refine ⟨sc_in (j := 5) hv hc hL ex750 (by omega) (by decide), ?_⟩
  intro x751 ex751
  intro x752 ex752
  refine ⟨sc_in (j := 6) hv hc hL ex752 (by omega) (by decide), ?_⟩
  intro x753 ex753
  refine ⟨o2, ?_⟩
  refine ⟨by show _ ≤ 601024; omega, by show _ ≤ 7293034; omega, ?_⟩
  refine mz_X11_step hI o2 (fun x755 S754 hJ g756 fc757 Kg756 nf2 kz => ?_)
  have wr := wr_keep hI o2 wr kz.1.1 kz.1.2 fc757 (by decide) (by decide) (by decide)
  have td := td_keep o2 td fc757 (by decide)
  have e6 := (fc757.2 9 6 (by decide) (by decide) v1 o1).trans e6
  have cd := cd_keep hI cd kz.2.2 fc757 (by decide) (by decide)
  have md := md_keep hI md kz.2.1 fc757 (by decide) (by decide)
  have lgx := lg_keep o1 lgx g756 fc757 (by decide) (by decide) (by decide)
  have tp := tt_fri tp o1 o2 Kg756 fc757 (by decide) (by decide) (by decide) (by decide)
  have fa := fa_fri fa o1 o2 fc757 (by decide) (by decide)
  have wh := wh_set nf1 fc757 (by decide) nf2
  have hI := hJ
  have l3 := (gr_len g756 o3).trans l3
  have o1 := gr_ob g756 o1
  have o2 := gr_ob g756 o2
  have o3 := gr_ob g756 o3
  intro _
  unfold P_L_law_2341
  intro x758 ex758
  have back := hb x758 ex758
  exact back _ _ _ hI o1 o2 o3 l3 tp fa wh ⟨AA, GG, _, dy, wr, gb, ge, td, e6, cd, md, db⟩ lgx (by omega) (by omega)
set_option maxHeartbeats 4000000 in
set_option maxRecDepth 20000 in
theorem a_L_law_1772 {scL : Nat} {scx : Nat → Int32} {Q : Int32 → HS → Prop} {X23 : Nat → Nat → Nat → Int32 → Nat → Nat → HS → Prop} {v1 v2 v3 : Nat} {v4 : Int32} {kk nn : Nat} {S : HS} {c : Nat} (hL : scL ≤ 4096) (hc : 8 * c + 8 ≤ scL) (hb : ∀ x : Int32, x = v4 + (8 : Int32) → ∀ (kk nn : Nat) (T : HS), IV T → ob T v1 9 → ob T v2 11 → ob T v3 14 → hN T v3 = 1 → TT v1 v2 T → fI T v1 7 = fI T v2 13 → WH v1 v2 T → WRq v1 v2 T → LGx v1 T → kk ≤ 200 + 35 * (c + 1) → nn ≤ 13000 + 8200 * (c + 1) → X23 v1 v2 v3 x kk nn T) (h : LI v1 v2 v3 v4 kk nn S c) : P_L_law_1772 scL scx Q X23 v1 v2 v3 v4 kk nn S := by
  obtain ⟨hI, o1, o2, o3, l3, tp, fa, wh, wr, lgx, hv, hk, hn⟩ := h
  obtain ⟨AA, GG, DD, dy, wr, gb, ge, td, e6, cd, md, db⟩ := wr
  unfold P_L_law_1772
  intro x759 ex759
  refine ⟨sc_in (j := 1) hv hc hL ex759 (by omega) (by decide), ?_⟩
  intro x760 ex760
  intro x761 ex761
  refine ⟨sc_in (j := 2) hv hc hL ex761 (by omega) (by decide), ?_⟩
  intro x762 ex762
  intro x763 ex763
  refine ⟨sc_in (j := 3) hv hc hL ex763 (by omega) (by decide), ?_⟩
  intro x764 ex764
  intro x765 ex765
  refine ⟨sc_in (j := 4) hv hc hL ex765 (by omega) (by decide), ?_⟩
  intro x766 ex766
  refine ⟨o1, ?_⟩
  refine ⟨by show _ ≤ 601024; omega, by show _ ≤ 7293034; omega, ?_⟩
  refine mz_X9_off hI o1 (fun x768 S767 hJ g769 fc770 Kg769 nf1 kz => ?_)
  have wr := wr_keep hI o2 wr kz.1.1 kz.1.2 fc770 (by decide) (by decide) (by decide)
  have td := td_keep o2 td fc770 (by decide)
  have e6 := (fc770.2 9 6 (by decide) (by decide) v1 o1).trans e6
  have cd := cd_keep hI cd kz.2.2 fc770 (by decide) (by decide)
  have md := md_keep hI md kz.2.1 fc770 (by decide) (by decide)
  have lgx := lg_keep o1 lgx g769 fc770 (by decide) (by decide) (by decide)
  have tp := tt_fri tp o1 o2 Kg769 fc770 (by decide) (by decide) (by decide) (by decide)
  have fa := fa_fri fa o1 o2 fc770 (by decide) (by decide)
  have hI := hJ
  have l3 := (gr_len g769 o3).trans l3
  have o1 := gr_ob g769 o1
  have o2 := gr_ob g769 o2
  have o3 := gr_ob g769 o3
  intro _
  intro x771 ex771
  refine ⟨sc_in (j := 1) hv hc hL ex771 (by omega) (by decide), ?_⟩
  intro x772 ex772
  intro x773 ex773
  refine ⟨sc_in (j := 2) hv hc hL ex773 (by omega) (by decide), ?_⟩
  intro x774 ex774
  intro x775 ex775
  refine ⟨sc_in (j := 3) hv hc hL ex775 (by omega) (by decide), ?_⟩
  intro x776 ex776
  intro x777 ex777
  refine ⟨sc_in (j := 4) hv hc hL ex777 (by omega) (by decide), ?_⟩
  intro x778 ex778
  refine ⟨o2, ?_⟩
  refine ⟨by show _ ≤ 601024; omega, by show _ ≤ 7293034; omega, ?_⟩
  refine mz_X11_off hI o2 (fun x780 S779 hJ g781 fc782 Kg781 nf2 kz => ?_)
  have wr := wr_keep hI o2 wr kz.1.1 kz.1.2 fc782 (by decide) (by decide) (by decide)
  have td := td_keep o2 td fc782 (by decide)
  have e6 := (fc782.2 9 6 (by decide) (by decide) v1 o1).trans e6
  have cd := cd_keep hI cd kz.2.2 fc782 (by decide) (by decide)
  have md := md_keep hI md kz.2.1 fc782 (by decide) (by decide)
  have lgx := lg_keep o1 lgx g781 fc782 (by decide) (by decide) (by decide)
  have tp := tt_fri tp o1 o2 Kg781 fc782 (by decide) (by decide) (by decide) (by decide)
  have fa := fa_fri fa o1 o2 fc782 (by decide) (by decide)
  have wh := wh_set nf1 fc782 (by decide) nf2
  have hI := hJ
  have l3 := (gr_len g781 o3).trans l3
  have o1 := gr_ob g781 o1
  have o2 := gr_ob g781 o2
  have o3 := gr_ob g781 o3
  intro _
  unfold P_L_law_2341
  intro x783 ex783
  have back := hb x783 ex783
  exact back _ _ _ hI o1 o2 o3 l3 tp fa wh ⟨AA, GG, _, dy, wr, gb, ge, td, e6, cd, md, db⟩ lgx (by omega) (by omega)
set_option maxHeartbeats 4000000 in
set_option maxRecDepth 20000 in
theorem a_L_law_1833 {scL : Nat} {scx : Nat → Int32} {Q : Int32 → HS → Prop} {X23 : Nat → Nat → Nat → Int32 → Nat → Nat → HS → Prop} {v1 v2 v3 : Nat} {v4 : Int32} {kk nn : Nat} {S : HS} {c : Nat} (hL : scL ≤ 4096) (hc : 8 * c + 8 ≤ scL) (hb : ∀ x : Int32, x = v4 + (8 : Int32) → ∀ (kk nn : Nat) (T : HS), IV T → ob T v1 9 → ob T v2 11 → ob T v3 14 → hN T v3 = 1 → TT v1 v2 T → fI T v1 7 = fI T v2 13 → WH v1 v2 T → WRq v1 v2 T → LGx v1 T → kk ≤ 200 + 35 * (c + 1) → nn ≤ 13000 + 8200 * (c + 1) → X23 v1 v2 v3 x kk nn T) (h : LI v1 v2 v3 v4 kk nn S c) : P_L_law_1833 scL scx Q X23 v1 v2 v3 v4 kk nn S := by
  obtain ⟨hI, o1, o2, o3, l3, tp, fa, wh, wr, lgx, hv, hk, hn⟩ := h
  obtain ⟨AA, GG, DD, dy, wr, gb, ge, td, e6, cd, md, db⟩ := wr
  unfold P_L_law_1833
  intro x784 ex784
  refine ⟨sc_in (j := 1) hv hc hL ex784 (by omega) (by decide), ?_⟩
  intro x785 ex785
  refine ⟨o1, ?_⟩
  refine ⟨by show _ ≤ 601024; omega, by show _ ≤ 7293034; omega, ?_⟩
  refine mz_X9_fits hI o1 (fun x787 S786 hJ g788 fc789 Kg788 nf1 kz => ?_)
  have wr := wr_keep hI o2 wr kz.1.1 kz.1.2 fc789 (by decide) (by decide) (by decide)
  have td := td_keep o2 td fc789 (by decide)
  have e6 := (fc789.2 9 6 (by decide) (by decide) v1 o1).trans e6
  have cd := cd_keep hI cd kz.2.2 fc789 (by decide) (by decide)
  have md := md_keep hI md kz.2.1 fc789 (by decide) (by decide)
  have lgx := lg_keep o1 lgx g788 fc789 (by decide) (by decide) (by decide)
  have tp := tt_fri tp o1 o2 Kg788 fc789 (by decide) (by decide) (by decide) (by decide)
  have fa := fa_fri fa o1 o2 fc789 (by decide) (by decide)
  have hI := hJ
  have l3 := (gr_len g788 o3).trans l3
  have o1 := gr_ob g788 o1
  have o2 := gr_ob g788 o2
  have o3 := gr_ob g788 o3
  intro _
  intro x790 ex790
  refine ⟨sc_in (j := 1) hv hc hL ex790 (by omega) (by decide), ?_⟩
  intro x791 ex791
  refine ⟨o2, ?_⟩
  refine ⟨by show _ ≤ 601024; omega, by show _ ≤ 7293034; omega, ?_⟩
  refine mz_X11_fits hI o2 (fun x793 S792 hJ g794 fc795 Kg794 nf2 kz => ?_)
  have wr := wr_keep hI o2 wr kz.1.1 kz.1.2 fc795 (by decide) (by decide) (by decide)
  have td := td_keep o2 td fc795 (by decide)
  have e6 := (fc795.2 9 6 (by decide) (by decide) v1 o1).trans e6
  have cd := cd_keep hI cd kz.2.2 fc795 (by decide) (by decide)
  have md := md_keep hI md kz.2.1 fc795 (by decide) (by decide)
  have lgx := lg_keep o1 lgx g794 fc795 (by decide) (by decide) (by decide)
  have tp := tt_fri tp o1 o2 Kg794 fc795 (by decide) (by decide) (by decide) (by decide)
  have fa := fa_fri fa o1 o2 fc795 (by decide) (by decide)
  have wh := wh_set nf1 fc795 (by decide) nf2
  have hI := hJ
  have l3 := (gr_len g794 o3).trans l3
  have o1 := gr_ob g794 o1
  have o2 := gr_ob g794 o2
  have o3 := gr_ob g794 o3
  intro _
  unfold P_L_law_2341
  intro x796 ex796
  have back := hb x796 ex796
  exact back _ _ _ hI o1 o2 o3 l3 tp fa wh ⟨AA, GG, _, dy, wr, gb, ge, td, e6, cd, md, db⟩ lgx (by omega) (by omega)
set_option maxHeartbeats 4000000 in
set_option maxRecDepth 20000 in
theorem a_L_law_1858 {scL : Nat} {scx : Nat → Int32} {Q : Int32 → HS → Prop} {X23 : Nat → Nat → Nat → Int32 → Nat → Nat → HS → Prop} {v1 v2 v3 : Nat} {v4 : Int32} {kk nn : Nat} {S : HS} {c : Nat} (hL : scL ≤ 4096) (hc : 8 * c + 8 ≤ scL) (hb : ∀ x : Int32, x = v4 + (8 : Int32) → ∀ (kk nn : Nat) (T : HS), IV T → ob T v1 9 → ob T v2 11 → ob T v3 14 → hN T v3 = 1 → TT v1 v2 T → fI T v1 7 = fI T v2 13 → WH v1 v2 T → WRq v1 v2 T → LGx v1 T → kk ≤ 200 + 35 * (c + 1) → nn ≤ 13000 + 8200 * (c + 1) → X23 v1 v2 v3 x kk nn T) (h : LI v1 v2 v3 v4 kk nn S c) : P_L_law_1858 scL scx Q X23 v1 v2 v3 v4 kk nn S := by
  obtain ⟨hI, o1, o2, o3, l3, tp, fa, wh, wr, lgx, hv, hk, hn⟩ := h
  obtain ⟨AA, GG, DD, dy, wr, gb, ge, td, e6, cd, md, db⟩ := wr
  unfold P_L_law_1858
  intro x797 ex797
  refine ⟨sc_in (j := 1) hv hc hL ex797 (by omega) (by decide), ?_⟩
  intro x798 ex798
  intro x799 ex799
  refine ⟨sc_in (j := 2) hv hc hL ex799 (by omega) (by decide), ?_⟩
  intro x800 ex800
  refine ⟨o1, ?_⟩
  refine ⟨by show _ ≤ 601024; omega, by show _ ≤ 7293034; omega, ?_⟩
  refine mz_X9_fit hI o1 (fun x802 S801 hJ g803 fc804 Kg803 nf1 kz => ?_)
  have wr := wr_keep hI o2 wr kz.1.1 kz.1.2 fc804 (by decide) (by decide) (by decide)
  have td := td_keep o2 td fc804 (by decide)
  have e6 := (fc804.2 9 6 (by decide) (by decide) v1 o1).trans e6
  have cd := cd_keep hI cd kz.2.2 fc804 (by decide) (by decide)
  have md := md_keep hI md kz.2.1 fc804 (by decide) (by decide)
  have lgx := lg_keep o1 lgx g803 fc804 (by decide) (by decide) (by decide)
  have tp := tt_fri tp o1 o2 Kg803 fc804 (by decide) (by decide) (by decide) (by decide)
  have fa := fa_fri fa o1 o2 fc804 (by decide) (by decide)
  have hI := hJ
  have l3 := (gr_len g803 o3).trans l3
  have o1 := gr_ob g803 o1
  have o2 := gr_ob g803 o2
  have o3 := gr_ob g803 o3
  intro _
  intro x805 ex805
  refine ⟨sc_in (j := 1) hv hc hL ex805 (by omega) (by decide), ?_⟩
  intro x806 ex806
  intro x807 ex807
  refine ⟨sc_in (j := 2) hv hc hL ex807 (by omega) (by decide), ?_⟩
  intro x808 ex808
  refine ⟨o2, ?_⟩
  refine ⟨by show _ ≤ 601024; omega, by show _ ≤ 7293034; omega, ?_⟩
  refine mz_X11_fit hI o2 (fun x810 S809 hJ g811 fc812 Kg811 nf2 kz => ?_)
  have wr := wr_keep hI o2 wr kz.1.1 kz.1.2 fc812 (by decide) (by decide) (by decide)
  have td := td_keep o2 td fc812 (by decide)
  have e6 := (fc812.2 9 6 (by decide) (by decide) v1 o1).trans e6
  have cd := cd_keep hI cd kz.2.2 fc812 (by decide) (by decide)
  have md := md_keep hI md kz.2.1 fc812 (by decide) (by decide)
  have lgx := lg_keep o1 lgx g811 fc812 (by decide) (by decide) (by decide)
  have tp := tt_fri tp o1 o2 Kg811 fc812 (by decide) (by decide) (by decide) (by decide)
  have fa := fa_fri fa o1 o2 fc812 (by decide) (by decide)
  have wh := wh_set nf1 fc812 (by decide) nf2
  have hI := hJ
  have l3 := (gr_len g811 o3).trans l3
  have o1 := gr_ob g811 o1
  have o2 := gr_ob g811 o2
  have o3 := gr_ob g811 o3
  intro _
  unfold P_L_law_2341
  intro x813 ex813
  have back := hb x813 ex813
  exact back _ _ _ hI o1 o2 o3 l3 tp fa wh ⟨AA, GG, _, dy, wr, gb, ge, td, e6, cd, md, db⟩ lgx (by omega) (by omega)
set_option maxHeartbeats 4000000 in
set_option maxRecDepth 20000 in
theorem a_L_law_1895 {scL : Nat} {scx : Nat → Int32} {Q : Int32 → HS → Prop} {X23 : Nat → Nat → Nat → Int32 → Nat → Nat → HS → Prop} {v1 v2 v3 : Nat} {v4 : Int32} {kk nn : Nat} {S : HS} {c : Nat} (hL : scL ≤ 4096) (hc : 8 * c + 8 ≤ scL) (hb : ∀ x : Int32, x = v4 + (8 : Int32) → ∀ (kk nn : Nat) (T : HS), IV T → ob T v1 9 → ob T v2 11 → ob T v3 14 → hN T v3 = 1 → TT v1 v2 T → fI T v1 7 = fI T v2 13 → WH v1 v2 T → WRq v1 v2 T → LGx v1 T → kk ≤ 200 + 35 * (c + 1) → nn ≤ 13000 + 8200 * (c + 1) → X23 v1 v2 v3 x kk nn T) (h : LI v1 v2 v3 v4 kk nn S c) : P_L_law_1895 scL scx Q X23 v1 v2 v3 v4 kk nn S := by
  obtain ⟨hI, o1, o2, o3, l3, tp, fa, wh, wr, lgx, hv, hk, hn⟩ := h
  obtain ⟨AA, GG, DD, dy, wr, gb, ge, td, e6, cd, md, db⟩ := wr
  unfold P_L_law_1895
  refine ⟨o1, ?_⟩
  refine ⟨by show _ ≤ 601024; omega, by show _ ≤ 7293034; omega, ?_⟩
  refine mz_X9_lies hI o1 (fun x815 S814 hJ g816 fc817 Kg816 nf1 kz => ?_)
  have wr := wr_keep hI o2 wr kz.1.1 kz.1.2 fc817 (by decide) (by decide) (by decide)
  have td := td_keep o2 td fc817 (by decide)
  have e6 := (fc817.2 9 6 (by decide) (by decide) v1 o1).trans e6
  have cd := cd_keep hI cd kz.2.2 fc817 (by decide) (by decide)
  have md := md_keep hI md kz.2.1 fc817 (by decide) (by decide)
  have lgx := lg_keep o1 lgx g816 fc817 (by decide) (by decide) (by decide)
  have tp := tt_fri tp o1 o2 Kg816 fc817 (by decide) (by decide) (by decide) (by decide)
  have fa := fa_fri fa o1 o2 fc817 (by decide) (by decide)
  have hI := hJ
  have l3 := (gr_len g816 o3).trans l3
  have o1 := gr_ob g816 o1
  have o2 := gr_ob g816 o2
  have o3 := gr_ob g816 o3
  intro _
  refine ⟨o2, ?_⟩
  refine ⟨by show _ ≤ 601024; omega, by show _ ≤ 7293034; omega, ?_⟩
  refine mz_X11_lies hI o2 (fun x819 S818 hJ g820 fc821 Kg820 nf2 kz => ?_)
  have wr := wr_keep hI o2 wr kz.1.1 kz.1.2 fc821 (by decide) (by decide) (by decide)
  have td := td_keep o2 td fc821 (by decide)
  have e6 := (fc821.2 9 6 (by decide) (by decide) v1 o1).trans e6
  have cd := cd_keep hI cd kz.2.2 fc821 (by decide) (by decide)
  have md := md_keep hI md kz.2.1 fc821 (by decide) (by decide)
  have lgx := lg_keep o1 lgx g820 fc821 (by decide) (by decide) (by decide)
  have tp := tt_fri tp o1 o2 Kg820 fc821 (by decide) (by decide) (by decide) (by decide)
  have fa := fa_fri fa o1 o2 fc821 (by decide) (by decide)
  have wh := wh_set nf1 fc821 (by decide) nf2
  have hI := hJ
  have l3 := (gr_len g820 o3).trans l3
  have o1 := gr_ob g820 o1
  have o2 := gr_ob g820 o2
  have o3 := gr_ob g820 o3
  intro _
  unfold P_L_law_2341
  intro x822 ex822
  have back := hb x822 ex822
  exact back _ _ _ hI o1 o2 o3 l3 tp fa wh ⟨AA, GG, _, dy, wr, gb, ge, td, e6, cd, md, db⟩ lgx (by omega) (by omega)
set_option maxHeartbeats 4000000 in
set_option maxRecDepth 20000 in
theorem a_L_law_1908 {scL : Nat} {scx : Nat → Int32} {Q : Int32 → HS → Prop} {X23 : Nat → Nat → Nat → Int32 → Nat → Nat → HS → Prop} {v1 v2 v3 : Nat} {v4 : Int32} {kk nn : Nat} {S : HS} {c : Nat} (hL : scL ≤ 4096) (hc : 8 * c + 8 ≤ scL) (hb : ∀ x : Int32, x = v4 + (8 : Int32) → ∀ (kk nn : Nat) (T : HS), IV T → ob T v1 9 → ob T v2 11 → ob T v3 14 → hN T v3 = 1 → TT v1 v2 T → fI T v1 7 = fI T v2 13 → WH v1 v2 T → WRq v1 v2 T → LGx v1 T → kk ≤ 200 + 35 * (c + 1) → nn ≤ 13000 + 8200 * (c + 1) → X23 v1 v2 v3 x kk nn T) (h : LI v1 v2 v3 v4 kk nn S c) : P_L_law_1908 scL scx Q X23 v1 v2 v3 v4 kk nn S := by
  obtain ⟨hI, o1, o2, o3, l3, tp, fa, wh, wr, lgx, hv, hk, hn⟩ := h
  obtain ⟨AA, GG, DD, dy, wr, gb, ge, td, e6, cd, md, db⟩ := wr
  unfold P_L_law_1908
  intro x823 ex823
  refine ⟨sc_in (j := 1) hv hc hL ex823 (by omega) (by decide), ?_⟩
  intro x824 ex824
  intro x825 ex825
  refine ⟨sc_in (j := 2) hv hc hL ex825 (by omega) (by decide), ?_⟩
  intro x826 ex826
  intro x827 ex827
  refine ⟨sc_in (j := 3) hv hc hL ex827 (by omega) (by decide), ?_⟩
  intro x828 ex828
  intro x829 ex829
  refine ⟨sc_in (j := 4) hv hc hL ex829 (by omega) (by decide), ?_⟩
  intro x830 ex830
  refine ⟨o1, ?_⟩
  refine ⟨by show _ ≤ 601024; omega, by show _ ≤ 7293034; omega, ?_⟩
  have wr0 := wr
  obtain ⟨r9, w9, u9, J9, h91, h92, h93, h94⟩ := wr0
  have lg0 := lgx
  obtain ⟨l9, p9, q9, lg9⟩ := lg0
  refine mt_X9_day hI o1 J9 h91 h92 h93 gb lg9 e6 cd db (fun x832 S831 hJ g833 fc834 Kg833 nf1 tz1 => ?_)
  have kz := tz1.1
  have wr := wr_keep hI o2 wr kz.1.1 kz.1.2 fc834 (by decide) (by decide) (by decide)
  have td := td_keep o2 td fc834 (by decide)
  have e6 := (fc834.2 9 6 (by decide) (by decide) v1 o1).trans e6
  have cd := tz1.2.2
  have md := md_keep hI md kz.2 fc834 (by decide) (by decide)
  have lgx := lg_keep o1 lgx g833 fc834 (by decide) (by decide) (by decide)
  have tp := tt_fri tp o1 o2 Kg833 fc834 (by decide) (by decide) (by decide) (by decide)
  have fa := fa_fri fa o1 o2 fc834 (by decide) (by decide)
  have hI := hJ
  have l3 := (gr_len g833 o3).trans l3
  have o1 := gr_ob g833 o1
  have o2 := gr_ob g833 o2
  have o3 := gr_ob g833 o3
  intro _
  intro x835 ex835
  refine ⟨sc_in (j := 1) hv hc hL ex835 (by omega) (by decide), ?_⟩
  intro x836 ex836
  intro x837 ex837
  refine ⟨sc_in (j := 2) hv hc hL ex837 (by omega) (by decide), ?_⟩
  intro x838 ex838
  intro x839 ex839
  refine ⟨sc_in (j := 3) hv hc hL ex839 (by omega) (by decide), ?_⟩
  intro x840 ex840
  intro x841 ex841
  refine ⟨sc_in (j := 4) hv hc hL ex841 (by omega) (by decide), ?_⟩
  intro x842 ex842
  refine ⟨o2, ?_⟩
  refine ⟨by show _ ≤ 601024; omega, by show _ ≤ 7293034; omega, ?_⟩
  have wr0 := wr
  obtain ⟨-, -, -, -, -, -, ab9, hm9⟩ := wr0
  refine mt_X11_day hI o2 hm9 ab9 gb md db (fun x844 S843 hJ g845 fc846 Kg845 nf2 tz2 => ?_)
  have kz := tz2.1
  have wr := wr_keep hI o2 wr kz.1.1 kz.1.2 fc846 (by decide) (by decide) (by decide)
  have td := td_keep o2 td fc846 (by decide)
  have e6 := (fc846.2 9 6 (by decide) (by decide) v1 o1).trans e6
  have cd := cd_keep hI cd kz.2 fc846 (by decide) (by decide)
  have md : MDd v2 (nxday AA GG DD x824 x826 x828 x830) S843 := by subst_vars; exact tz2.2.2
  have db : DBd AA (nxday AA GG DD x824 x826 x828 x830) := db_day ab9 db
  have lgx := lg_keep o1 lgx g845 fc846 (by decide) (by decide) (by decide)
  have tp := tt_fri tp o1 o2 Kg845 fc846 (by decide) (by decide) (by decide) (by decide)
  have fa := fa_fri fa o1 o2 fc846 (by decide) (by decide)
  have wh := wh_set nf1 fc846 (by decide) nf2
  have hI := hJ
  have l3 := (gr_len g845 o3).trans l3
  have o1 := gr_ob g845 o1
  have o2 := gr_ob g845 o2
  have o3 := gr_ob g845 o3
  intro _
  unfold P_L_law_2341
  intro x847 ex847
  have back := hb x847 ex847
  exact back _ _ _ hI o1 o2 o3 l3 tp fa wh ⟨AA, GG, _, dy, wr, gb, ge, td, e6, cd, md, db⟩ lgx (by omega) (by omega)
set_option maxHeartbeats 4000000 in
set_option maxRecDepth 20000 in
theorem a_L_law_1969 {scL : Nat} {scx : Nat → Int32} {Q : Int32 → HS → Prop} {X23 : Nat → Nat → Nat → Int32 → Nat → Nat → HS → Prop} {v1 v2 v3 : Nat} {v4 : Int32} {kk nn : Nat} {S : HS} {c : Nat} (hL : scL ≤ 4096) (hc : 8 * c + 8 ≤ scL) (hb : ∀ x : Int32, x = v4 + (8 : Int32) → ∀ (kk nn : Nat) (T : HS), IV T → ob T v1 9 → ob T v2 11 → ob T v3 14 → hN T v3 = 1 → TT v1 v2 T → fI T v1 7 = fI T v2 13 → WH v1 v2 T → WRq v1 v2 T → LGx v1 T → kk ≤ 200 + 35 * (c + 1) → nn ≤ 13000 + 8200 * (c + 1) → X23 v1 v2 v3 x kk nn T) (h : LI v1 v2 v3 v4 kk nn S c) : P_L_law_1969 scL scx Q X23 v1 v2 v3 v4 kk nn S := by
  obtain ⟨hI, o1, o2, o3, l3, tp, fa, wh, wr, lgx, hv, hk, hn⟩ := h
  obtain ⟨AA, GG, DD, dy, wr, gb, ge, td, e6, cd, md, db⟩ := wr
  unfold P_L_law_1969
  intro x848 ex848
  refine ⟨sc_in (j := 1) hv hc hL ex848 (by omega) (by decide), ?_⟩
  intro x849 ex849
  intro x850 ex850
  refine ⟨sc_in (j := 2) hv hc hL ex850 (by omega) (by decide), ?_⟩
  intro x851 ex851
  intro x852 ex852
  refine ⟨sc_in (j := 3) hv hc hL ex852 (by omega) (by decide), ?_⟩
  intro x853 ex853
  refine ⟨o1, ?_⟩
  refine ⟨by show _ ≤ 601024; omega, by show _ ≤ 7293034; omega, ?_⟩
  have wr0 := wr
  obtain ⟨r9, w9, u9, J9, h91, h92, h93, h94⟩ := wr0
  have lg0 := lgx
  obtain ⟨l9, p9, q9, lg9⟩ := lg0
  refine mt_X9_go hI o1 J9 h91 h92 h93 gb lg9 e6 cd db (fun x855 S854 hJ g856 fc857 Kg856 nf1 tz1 => ?_)
  have kz := tz1.1
  have wr := wr_keep hI o2 wr kz.1.1 kz.1.2 fc857 (by decide) (by decide) (by decide)
  have td := td_keep o2 td fc857 (by decide)
  have e6 := (fc857.2 9 6 (by decide) (by decide) v1 o1).trans e6
  have cd := tz1.2.2
  have md := md_keep hI md kz.2 fc857 (by decide) (by decide)
  have lgx := lg_keep o1 lgx g856 fc857 (by decide) (by decide) (by decide)
  have tp := tt_fri tp o1 o2 Kg856 fc857 (by decide) (by decide) (by decide) (by decide)
  have fa := fa_fri fa o1 o2 fc857 (by decide) (by decide)
  have hI := hJ
  have l3 := (gr_len g856 o3).trans l3
  have o1 := gr_ob g856 o1
  have o2 := gr_ob g856 o2
  have o3 := gr_ob g856 o3
  intro _
  intro x858 ex858
  refine ⟨sc_in (j := 1) hv hc hL ex858 (by omega) (by decide), ?_⟩
  intro x859 ex859
  intro x860 ex860
  refine ⟨sc_in (j := 2) hv hc hL ex860 (by omega) (by decide), ?_⟩
  intro x861 ex861
  intro x862 ex862
  refine ⟨sc_in (j := 3) hv hc hL ex862 (by omega) (by decide), ?_⟩
  intro x863 ex863
  refine ⟨o2, ?_⟩
  refine ⟨by show _ ≤ 601024; omega, by show _ ≤ 7293034; omega, ?_⟩
  have wr0 := wr
  obtain ⟨-, -, -, -, -, -, ab9, hm9⟩ := wr0
  refine mt_X11_go hI o2 hm9 ab9 gb md db (fun x865 S864 hJ g866 fc867 Kg866 nf2 tz2 => ?_)
  have kz := tz2.1
  have wr := wr_keep hI o2 wr kz.1.1 kz.1.2 fc867 (by decide) (by decide) (by decide)
  have td := td_keep o2 td fc867 (by decide)
  have e6 := (fc867.2 9 6 (by decide) (by decide) v1 o1).trans e6
  have cd := cd_keep hI cd kz.2 fc867 (by decide) (by decide)
  have md : MDd v2 (nxgo AA GG DD x849 x851 x853) S864 := by subst_vars; exact tz2.2.2
  have db : DBd AA (nxgo AA GG DD x849 x851 x853) := db_go ab9 gb ge db
  have lgx := lg_keep o1 lgx g866 fc867 (by decide) (by decide) (by decide)
  have tp := tt_fri tp o1 o2 Kg866 fc867 (by decide) (by decide) (by decide) (by decide)
  have fa := fa_fri fa o1 o2 fc867 (by decide) (by decide)
  have wh := wh_set nf1 fc867 (by decide) nf2
  have hI := hJ
  have l3 := (gr_len g866 o3).trans l3
  have o1 := gr_ob g866 o1
  have o2 := gr_ob g866 o2
  have o3 := gr_ob g866 o3
  intro _
  unfold P_L_law_2341
  intro x868 ex868
  have back := hb x868 ex868
  exact back _ _ _ hI o1 o2 o3 l3 tp fa wh ⟨AA, GG, _, dy, wr, gb, ge, td, e6, cd, md, db⟩ lgx (by omega) (by omega)
set_option maxHeartbeats 4000000 in
set_option maxRecDepth 20000 in
theorem a_L_law_2018 {scL : Nat} {scx : Nat → Int32} {Q : Int32 → HS → Prop} {X23 : Nat → Nat → Nat → Int32 → Nat → Nat → HS → Prop} {v1 v2 v3 : Nat} {v4 : Int32} {kk nn : Nat} {S : HS} {c : Nat} (hL : scL ≤ 4096) (hc : 8 * c + 8 ≤ scL) (hb : ∀ x : Int32, x = v4 + (8 : Int32) → ∀ (kk nn : Nat) (T : HS), IV T → ob T v1 9 → ob T v2 11 → ob T v3 14 → hN T v3 = 1 → TT v1 v2 T → fI T v1 7 = fI T v2 13 → WH v1 v2 T → WRq v1 v2 T → LGx v1 T → kk ≤ 200 + 35 * (c + 1) → nn ≤ 13000 + 8200 * (c + 1) → X23 v1 v2 v3 x kk nn T) (h : LI v1 v2 v3 v4 kk nn S c) : P_L_law_2018 scL scx Q X23 v1 v2 v3 v4 kk nn S := by
  obtain ⟨hI, o1, o2, o3, l3, tp, fa, wh, wr, lgx, hv, hk, hn⟩ := h
  obtain ⟨AA, GG, DD, dy, wr, gb, ge, td, e6, cd, md, db⟩ := wr
  unfold P_L_law_2018
  intro x869 ex869
  refine ⟨sc_in (j := 1) hv hc hL ex869 (by omega) (by decide), ?_⟩
  intro x870 ex870
  refine ⟨o1, ?_⟩
  refine ⟨by show _ ≤ 601024; omega, by show _ ≤ 7293034; omega, ?_⟩
  have wr0 := wr
  obtain ⟨r9, w9, u9, J9, h91, h92, h93, h94⟩ := wr0
  have lg0 := lgx
  obtain ⟨l9, p9, q9, lg9⟩ := lg0
  refine mt_X9_stay hI o1 J9 h91 h92 h93 gb lg9 e6 cd db (fun x872 S871 hJ g873 fc874 _ Kg873 nf1 tz1 => ?_)
  have kz := tz1.1
  have wr := wr_keep hI o2 wr kz.1.1 kz.1.2 fc874 (by decide) (by decide) (by decide)
  have td := td_keep o2 td fc874 (by decide)
  have e6 := (fc874.2 9 6 (by decide) (by decide) v1 o1).trans e6
  have cd := tz1.2.2
  have md := md_keep hI md kz.2 fc874 (by decide) (by decide)
  have lgx := lg_keep o1 lgx g873 fc874 (by decide) (by decide) (by decide)
  have tp := tt_fri tp o1 o2 Kg873 fc874 (by decide) (by decide) (by decide) (by decide)
  have fa := fa_fri fa o1 o2 fc874 (by decide) (by decide)
  have hI := hJ
  have l3 := (gr_len g873 o3).trans l3
  have o1 := gr_ob g873 o1
  have o2 := gr_ob g873 o2
  have o3 := gr_ob g873 o3
  intro _ _
  intro x875 ex875
  refine ⟨sc_in (j := 1) hv hc hL ex875 (by omega) (by decide), ?_⟩
  intro x876 ex876
  refine ⟨o2, ?_⟩
  refine ⟨by show _ ≤ 601024; omega, by show _ ≤ 7293034; omega, ?_⟩
  have wr0 := wr
  obtain ⟨-, -, -, -, -, -, ab9, hm9⟩ := wr0
  refine mt_X11_stay hI o2 hm9 ab9 gb md db (fun x878 S877 hJ g879 fc880 _ Kg879 nf2 tz2 => ?_)
  have kz := tz2.1
  have wr := wr_keep hI o2 wr kz.1.1 kz.1.2 fc880 (by decide) (by decide) (by decide)
  have td := td_keep o2 td fc880 (by decide)
  have e6 := (fc880.2 9 6 (by decide) (by decide) v1 o1).trans e6
  have cd := cd_keep hI cd kz.2 fc880 (by decide) (by decide)
  have md : MDd v2 (nxstay AA GG DD x870) S877 := by subst_vars; exact tz2.2.2
  have db : DBd AA (nxstay AA GG DD x870) := db_stay ab9 gb db
  have lgx := lg_keep o1 lgx g879 fc880 (by decide) (by decide) (by decide)
  have tp := tt_fri tp o1 o2 Kg879 fc880 (by decide) (by decide) (by decide) (by decide)
  have fa := fa_fri fa o1 o2 fc880 (by decide) (by decide)
  have wh := wh_set nf1 fc880 (by decide) nf2
  have hI := hJ
  have l3 := (gr_len g879 o3).trans l3
  have o1 := gr_ob g879 o1
  have o2 := gr_ob g879 o2
  have o3 := gr_ob g879 o3
  intro _ _
  unfold P_L_law_2341
  intro x881 ex881
  have back := hb x881 ex881
  exact back _ _ _ hI o1 o2 o3 l3 tp fa wh ⟨AA, GG, _, dy, wr, gb, ge, td, e6, cd, md, db⟩ lgx (by omega) (by omega)
set_option maxHeartbeats 4000000 in
set_option maxRecDepth 20000 in
theorem a_L_law_2043 {scL : Nat} {scx : Nat → Int32} {Q : Int32 → HS → Prop} {X23 : Nat → Nat → Nat → Int32 → Nat → Nat → HS → Prop} {v1 v2 v3 : Nat} {v4 : Int32} {kk nn : Nat} {S : HS} {c : Nat} (hL : scL ≤ 4096) (hc : 8 * c + 8 ≤ scL) (hb : ∀ x : Int32, x = v4 + (8 : Int32) → ∀ (kk nn : Nat) (T : HS), IV T → ob T v1 9 → ob T v2 11 → ob T v3 14 → hN T v3 = 1 → TT v1 v2 T → fI T v1 7 = fI T v2 13 → WH v1 v2 T → WRq v1 v2 T → LGx v1 T → kk ≤ 200 + 35 * (c + 1) → nn ≤ 13000 + 8200 * (c + 1) → X23 v1 v2 v3 x kk nn T) (h : LI v1 v2 v3 v4 kk nn S c) : P_L_law_2043 scL scx Q X23 v1 v2 v3 v4 kk nn S := by
  obtain ⟨hI, o1, o2, o3, l3, tp, fa, wh, wr, lgx, hv, hk, hn⟩ := h
  obtain ⟨AA, GG, DD, dy, wr, gb, ge, td, e6, cd, md, db⟩ := wr
  unfold P_L_law_2043
  intro x882 ex882
  refine ⟨sc_in (j := 1) hv hc hL ex882 (by omega) (by decide), ?_⟩
  intro x883 ex883
  intro x884 ex884
  refine ⟨sc_in (j := 2) hv hc hL ex884 (by omega) (by decide), ?_⟩
  intro x885 ex885
  refine ⟨fun c886 => ?_, fun c886 => ?_⟩
  · unfold P_L_law_2064
    refine ⟨o1, ?_⟩
    refine ⟨by show _ ≤ 601024; omega, by show _ ≤ 7293034; omega, ?_⟩
    refine mz_X9_got hI o1 (fun x888 S887 hJ g889 fc890 Kg889 nf1 kz => ?_)
    have wr := wr_keep hI o2 wr kz.1.1 kz.1.2 fc890 (by decide) (by decide) (by decide)
    have td := td_keep o2 td fc890 (by decide)
    have e6 := (fc890.2 9 6 (by decide) (by decide) v1 o1).trans e6
    have cd := cd_keep hI cd kz.2.2 fc890 (by decide) (by decide)
    have md := md_keep hI md kz.2.1 fc890 (by decide) (by decide)
    have lgx := lg_keep o1 lgx g889 fc890 (by decide) (by decide) (by decide)
    have tp := tt_fri tp o1 o2 Kg889 fc890 (by decide) (by decide) (by decide) (by decide)
    have fa := fa_fri fa o1 o2 fc890 (by decide) (by decide)
    have hI := hJ
    have l3 := (gr_len g889 o3).trans l3
    have o1 := gr_ob g889 o1
    have o2 := gr_ob g889 o2
    have o3 := gr_ob g889 o3
    intro _
    intro x891 ex891
    refine ⟨sc_in (j := 1) hv hc hL ex891 (by omega) (by decide), ?_⟩
    intro x892 ex892
    intro x893 ex893
    refine ⟨sc_in (j := 2) hv hc hL ex893 (by omega) (by decide), ?_⟩
    intro x894 ex894
    have xy896 : x894 = x885 := by rw [ex894, ex893, ex885, ex884]
    refine ⟨fun c895 => ?_, fun c895 => absurd (xy896.trans c886) c895⟩
    unfold P_L_law_2089
    refine ⟨o2, ?_⟩
    refine ⟨by show _ ≤ 601024; omega, by show _ ≤ 7293034; omega, ?_⟩
    refine mz_X11_got hI o2 (fun x898 S897 hJ g899 fc900 Kg899 nf2 kz => ?_)
    have wr := wr_keep hI o2 wr kz.1.1 kz.1.2 fc900 (by decide) (by decide) (by decide)
    have td := td_keep o2 td fc900 (by decide)
    have e6 := (fc900.2 9 6 (by decide) (by decide) v1 o1).trans e6
    have cd := cd_keep hI cd kz.2.2 fc900 (by decide) (by decide)
    have md := md_keep hI md kz.2.1 fc900 (by decide) (by decide)
    have lgx := lg_keep o1 lgx g899 fc900 (by decide) (by decide) (by decide)
    have tp := tt_fri tp o1 o2 Kg899 fc900 (by decide) (by decide) (by decide) (by decide)
    have fa := fa_fri fa o1 o2 fc900 (by decide) (by decide)
    have wh := wh_set nf1 fc900 (by decide) nf2
    have hI := hJ
    have l3 := (gr_len g899 o3).trans l3
    have o1 := gr_ob g899 o1
    have o2 := gr_ob g899 o2
    have o3 := gr_ob g899 o3
    intro _
    unfold P_L_law_2341
    intro x901 ex901
    have back := hb x901 ex901
    exact back _ _ _ hI o1 o2 o3 l3 tp fa wh ⟨AA, GG, _, dy, wr, gb, ge, td, e6, cd, md, db⟩ lgx (by omega) (by omega)
  · unfold P_L_law_2064
    refine ⟨o1, ?_⟩
    refine ⟨by show _ ≤ 601024; omega, by show _ ≤ 7293034; omega, ?_⟩
    refine mz_X9_got hI o1 (fun x903 S902 hJ g904 fc905 Kg904 nf1 kz => ?_)
    have wr := wr_keep hI o2 wr kz.1.1 kz.1.2 fc905 (by decide) (by decide) (by decide)
    have td := td_keep o2 td fc905 (by decide)
    have e6 := (fc905.2 9 6 (by decide) (by decide) v1 o1).trans e6
    have cd := cd_keep hI cd kz.2.2 fc905 (by decide) (by decide)
    have md := md_keep hI md kz.2.1 fc905 (by decide) (by decide)
    have lgx := lg_keep o1 lgx g904 fc905 (by decide) (by decide) (by decide)
    have tp := tt_fri tp o1 o2 Kg904 fc905 (by decide) (by decide) (by decide) (by decide)
    have fa := fa_fri fa o1 o2 fc905 (by decide) (by decide)
    have hI := hJ
    have l3 := (gr_len g904 o3).trans l3
    have o1 := gr_ob g904 o1
    have o2 := gr_ob g904 o2
    have o3 := gr_ob g904 o3
    intro _
    intro x906 ex906
    refine ⟨sc_in (j := 1) hv hc hL ex906 (by omega) (by decide), ?_⟩
    intro x907 ex907
    intro x908 ex908
    refine ⟨sc_in (j := 2) hv hc hL ex908 (by omega) (by decide), ?_⟩
    intro x909 ex909
    have xy911 : x909 = x885 := by rw [ex909, ex908, ex885, ex884]
    refine ⟨fun c910 => absurd (xy911.symm.trans c910) c886, fun c910 => ?_⟩
    unfold P_L_law_2089
    refine ⟨o2, ?_⟩
    refine ⟨by show _ ≤ 601024; omega, by show _ ≤ 7293034; omega, ?_⟩
    refine mz_X11_got hI o2 (fun x913 S912 hJ g914 fc915 Kg914 nf2 kz => ?_)
    have wr := wr_keep hI o2 wr kz.1.1 kz.1.2 fc915 (by decide) (by decide) (by decide)
    have td := td_keep o2 td fc915 (by decide)
    have e6 := (fc915.2 9 6 (by decide) (by decide) v1 o1).trans e6
    have cd := cd_keep hI cd kz.2.2 fc915 (by decide) (by decide)
    have md := md_keep hI md kz.2.1 fc915 (by decide) (by decide)
    have lgx := lg_keep o1 lgx g914 fc915 (by decide) (by decide) (by decide)
    have tp := tt_fri tp o1 o2 Kg914 fc915 (by decide) (by decide) (by decide) (by decide)
    have fa := fa_fri fa o1 o2 fc915 (by decide) (by decide)
    have wh := wh_set nf1 fc915 (by decide) nf2
    have hI := hJ
    have l3 := (gr_len g914 o3).trans l3
    have o1 := gr_ob g914 o1
    have o2 := gr_ob g914 o2
    have o3 := gr_ob g914 o3
    intro _
    unfold P_L_law_2341
    intro x916 ex916
    have back := hb x916 ex916
    exact back _ _ _ hI o1 o2 o3 l3 tp fa wh ⟨AA, GG, _, dy, wr, gb, ge, td, e6, cd, md, db⟩ lgx (by omega) (by omega)
set_option maxHeartbeats 4000000 in
set_option maxRecDepth 20000 in
theorem a_L_law_2096 {scL : Nat} {scx : Nat → Int32} {Q : Int32 → HS → Prop} {X23 : Nat → Nat → Nat → Int32 → Nat → Nat → HS → Prop} {v1 v2 v3 : Nat} {v4 : Int32} {kk nn : Nat} {S : HS} {c : Nat} (hL : scL ≤ 4096) (hc : 8 * c + 8 ≤ scL) (hb : ∀ x : Int32, x = v4 + (8 : Int32) → ∀ (kk nn : Nat) (T : HS), IV T → ob T v1 9 → ob T v2 11 → ob T v3 14 → hN T v3 = 1 → TT v1 v2 T → fI T v1 7 = fI T v2 13 → WH v1 v2 T → WRq v1 v2 T → LGx v1 T → kk ≤ 200 + 35 * (c + 1) → nn ≤ 13000 + 8200 * (c + 1) → X23 v1 v2 v3 x kk nn T) (h : LI v1 v2 v3 v4 kk nn S c) : P_L_law_2096 scL scx Q X23 v1 v2 v3 v4 kk nn S := by
  obtain ⟨hI, o1, o2, o3, l3, tp, fa, wh, wr, lgx, hv, hk, hn⟩ := h
  obtain ⟨AA, GG, DD, dy, wr, gb, ge, td, e6, cd, md, db⟩ := wr
  unfold P_L_law_2096
  intro x917 ex917
  refine ⟨sc_in (j := 1) hv hc hL ex917 (by omega) (by decide), ?_⟩
  intro x918 ex918
  refine ⟨fun c919 => ?_, fun c919 => ?_⟩
  · unfold P_L_law_2111
    refine ⟨o1, ?_⟩
    refine ⟨by show _ ≤ 601024; omega, by show _ ≤ 7293034; omega, ?_⟩
    refine mz_X9_wetness hI o1 (fun x921 S920 hJ g922 fc923 Kg922 nf1 kz => ?_)
    have wr := wr_keep hI o2 wr kz.1.1 kz.1.2 fc923 (by decide) (by decide) (by decide)
    have td := td_keep o2 td fc923 (by decide)
    have e6 := (fc923.2 9 6 (by decide) (by decide) v1 o1).trans e6
    have cd := cd_keep hI cd kz.2.2 fc923 (by decide) (by decide)
    have md := md_keep hI md kz.2.1 fc923 (by decide) (by decide)
    have lgx := lg_keep o1 lgx g922 fc923 (by decide) (by decide) (by decide)
    have tp := tt_fri tp o1 o2 Kg922 fc923 (by decide) (by decide) (by decide) (by decide)
    have fa := fa_fri fa o1 o2 fc923 (by decide) (by decide)
    have hI := hJ
    have l3 := (gr_len g922 o3).trans l3
    have o1 := gr_ob g922 o1
    have o2 := gr_ob g922 o2
    have o3 := gr_ob g922 o3
    intro _
    intro x924 ex924
    refine ⟨sc_in (j := 1) hv hc hL ex924 (by omega) (by decide), ?_⟩
    intro x925 ex925
    have xy927 : x925 = x918 := by rw [ex925, ex924, ex918, ex917]
    refine ⟨fun c926 => ?_, fun c926 => absurd (xy927.trans c919) c926⟩
    unfold P_L_law_2130
    refine ⟨o2, ?_⟩
    refine ⟨by show _ ≤ 601024; omega, by show _ ≤ 7293034; omega, ?_⟩
    refine mz_X11_wetness hI o2 (fun x929 S928 hJ g930 fc931 Kg930 nf2 kz => ?_)
    have wr := wr_keep hI o2 wr kz.1.1 kz.1.2 fc931 (by decide) (by decide) (by decide)
    have td := td_keep o2 td fc931 (by decide)
    have e6 := (fc931.2 9 6 (by decide) (by decide) v1 o1).trans e6
    have cd := cd_keep hI cd kz.2.2 fc931 (by decide) (by decide)
    have md := md_keep hI md kz.2.1 fc931 (by decide) (by decide)
    have lgx := lg_keep o1 lgx g930 fc931 (by decide) (by decide) (by decide)
    have tp := tt_fri tp o1 o2 Kg930 fc931 (by decide) (by decide) (by decide) (by decide)
    have fa := fa_fri fa o1 o2 fc931 (by decide) (by decide)
    have wh := wh_set nf1 fc931 (by decide) nf2
    have hI := hJ
    have l3 := (gr_len g930 o3).trans l3
    have o1 := gr_ob g930 o1
    have o2 := gr_ob g930 o2
    have o3 := gr_ob g930 o3
    intro _
    unfold P_L_law_2341
    intro x932 ex932
    have back := hb x932 ex932
    exact back _ _ _ hI o1 o2 o3 l3 tp fa wh ⟨AA, GG, _, dy, wr, gb, ge, td, e6, cd, md, db⟩ lgx (by omega) (by omega)
  · unfold P_L_law_2111
    refine ⟨o1, ?_⟩
    refine ⟨by show _ ≤ 601024; omega, by show _ ≤ 7293034; omega, ?_⟩
    refine mz_X9_wetness hI o1 (fun x934 S933 hJ g935 fc936 Kg935 nf1 kz => ?_)
    have wr := wr_keep hI o2 wr kz.1.1 kz.1.2 fc936 (by decide) (by decide) (by decide)
    have td := td_keep o2 td fc936 (by decide)
    have e6 := (fc936.2 9 6 (by decide) (by decide) v1 o1).trans e6
    have cd := cd_keep hI cd kz.2.2 fc936 (by decide) (by decide)
    have md := md_keep hI md kz.2.1 fc936 (by decide) (by decide)
    have lgx := lg_keep o1 lgx g935 fc936 (by decide) (by decide) (by decide)
    have tp := tt_fri tp o1 o2 Kg935 fc936 (by decide) (by decide) (by decide) (by decide)
    have fa := fa_fri fa o1 o2 fc936 (by decide) (by decide)
    have hI := hJ
    have l3 := (gr_len g935 o3).trans l3
    have o1 := gr_ob g935 o1
    have o2 := gr_ob g935 o2
    have o3 := gr_ob g935 o3
    intro _
    intro x937 ex937
    refine ⟨sc_in (j := 1) hv hc hL ex937 (by omega) (by decide), ?_⟩
    intro x938 ex938
    have xy940 : x938 = x918 := by rw [ex938, ex937, ex918, ex917]
    refine ⟨fun c939 => absurd (xy940.symm.trans c939) c919, fun c939 => ?_⟩
    unfold P_L_law_2130
    refine ⟨o2, ?_⟩
    refine ⟨by show _ ≤ 601024; omega, by show _ ≤ 7293034; omega, ?_⟩
    refine mz_X11_wetness hI o2 (fun x942 S941 hJ g943 fc944 Kg943 nf2 kz => ?_)
    have wr := wr_keep hI o2 wr kz.1.1 kz.1.2 fc944 (by decide) (by decide) (by decide)
    have td := td_keep o2 td fc944 (by decide)
    have e6 := (fc944.2 9 6 (by decide) (by decide) v1 o1).trans e6
    have cd := cd_keep hI cd kz.2.2 fc944 (by decide) (by decide)
    have md := md_keep hI md kz.2.1 fc944 (by decide) (by decide)
    have lgx := lg_keep o1 lgx g943 fc944 (by decide) (by decide) (by decide)
    have tp := tt_fri tp o1 o2 Kg943 fc944 (by decide) (by decide) (by decide) (by decide)
    have fa := fa_fri fa o1 o2 fc944 (by decide) (by decide)
    have wh := wh_set nf1 fc944 (by decide) nf2
    have hI := hJ
    have l3 := (gr_len g943 o3).trans l3
    have o1 := gr_ob g943 o1
    have o2 := gr_ob g943 o2
    have o3 := gr_ob g943 o3
    intro _
    unfold P_L_law_2341
    intro x945 ex945
    have back := hb x945 ex945
    exact back _ _ _ hI o1 o2 o3 l3 tp fa wh ⟨AA, GG, _, dy, wr, gb, ge, td, e6, cd, md, db⟩ lgx (by omega) (by omega)
set_option maxHeartbeats 4000000 in
set_option maxRecDepth 20000 in
theorem a_L_law_2137 {scL : Nat} {scx : Nat → Int32} {Q : Int32 → HS → Prop} {X23 : Nat → Nat → Nat → Int32 → Nat → Nat → HS → Prop} {v1 v2 v3 : Nat} {v4 : Int32} {kk nn : Nat} {S : HS} {c : Nat} (hL : scL ≤ 4096) (hc : 8 * c + 8 ≤ scL) (hb : ∀ x : Int32, x = v4 + (8 : Int32) → ∀ (kk nn : Nat) (T : HS), IV T → ob T v1 9 → ob T v2 11 → ob T v3 14 → hN T v3 = 1 → TT v1 v2 T → fI T v1 7 = fI T v2 13 → WH v1 v2 T → WRq v1 v2 T → LGx v1 T → kk ≤ 200 + 35 * (c + 1) → nn ≤ 13000 + 8200 * (c + 1) → X23 v1 v2 v3 x kk nn T) (h : LI v1 v2 v3 v4 kk nn S c) : P_L_law_2137 scL scx Q X23 v1 v2 v3 v4 kk nn S := by
  obtain ⟨hI, o1, o2, o3, l3, tp, fa, wh, wr, lgx, hv, hk, hn⟩ := h
  obtain ⟨AA, GG, DD, dy, wr, gb, ge, td, e6, cd, md, db⟩ := wr
  unfold P_L_law_2137
  refine ⟨o1, ?_⟩
  refine ⟨by show _ ≤ 601024; omega, by show _ ≤ 7293034; omega, ?_⟩
  refine mz_X9_soaked hI o1 (fun x947 S946 hJ g948 fc949 Kg948 nf1 kz => ?_)
  have wr := wr_keep hI o2 wr kz.1.1 kz.1.2 fc949 (by decide) (by decide) (by decide)
  have td := td_keep o2 td fc949 (by decide)
  have e6 := (fc949.2 9 6 (by decide) (by decide) v1 o1).trans e6
  have cd := cd_keep hI cd kz.2.2 fc949 (by decide) (by decide)
  have md := md_keep hI md kz.2.1 fc949 (by decide) (by decide)
  have lgx := lg_keep o1 lgx g948 fc949 (by decide) (by decide) (by decide)
  have tp := tt_fri tp o1 o2 Kg948 fc949 (by decide) (by decide) (by decide) (by decide)
  have fa := fa_fri fa o1 o2 fc949 (by decide) (by decide)
  have hI := hJ
  have l3 := (gr_len g948 o3).trans l3
  have o1 := gr_ob g948 o1
  have o2 := gr_ob g948 o2
  have o3 := gr_ob g948 o3
  intro _
  refine ⟨o2, ?_⟩
  refine ⟨by show _ ≤ 601024; omega, by show _ ≤ 7293034; omega, ?_⟩
  refine mz_X11_soaked hI o2 (fun x951 S950 hJ g952 fc953 Kg952 nf2 kz => ?_)
  have wr := wr_keep hI o2 wr kz.1.1 kz.1.2 fc953 (by decide) (by decide) (by decide)
  have td := td_keep o2 td fc953 (by decide)
  have e6 := (fc953.2 9 6 (by decide) (by decide) v1 o1).trans e6
  have cd := cd_keep hI cd kz.2.2 fc953 (by decide) (by decide)
  have md := md_keep hI md kz.2.1 fc953 (by decide) (by decide)
  have lgx := lg_keep o1 lgx g952 fc953 (by decide) (by decide) (by decide)
  have tp := tt_fri tp o1 o2 Kg952 fc953 (by decide) (by decide) (by decide) (by decide)
  have fa := fa_fri fa o1 o2 fc953 (by decide) (by decide)
  have wh := wh_set nf1 fc953 (by decide) nf2
  have hI := hJ
  have l3 := (gr_len g952 o3).trans l3
  have o1 := gr_ob g952 o1
  have o2 := gr_ob g952 o2
  have o3 := gr_ob g952 o3
  intro _
  unfold P_L_law_2341
  intro x954 ex954
  have back := hb x954 ex954
  exact back _ _ _ hI o1 o2 o3 l3 tp fa wh ⟨AA, GG, _, dy, wr, gb, ge, td, e6, cd, md, db⟩ lgx (by omega) (by omega)
set_option maxHeartbeats 4000000 in
set_option maxRecDepth 20000 in
theorem a_L_law_2150 {scL : Nat} {scx : Nat → Int32} {Q : Int32 → HS → Prop} {X23 : Nat → Nat → Nat → Int32 → Nat → Nat → HS → Prop} {v1 v2 v3 : Nat} {v4 : Int32} {kk nn : Nat} {S : HS} {c : Nat} (hL : scL ≤ 4096) (hc : 8 * c + 8 ≤ scL) (hb : ∀ x : Int32, x = v4 + (8 : Int32) → ∀ (kk nn : Nat) (T : HS), IV T → ob T v1 9 → ob T v2 11 → ob T v3 14 → hN T v3 = 1 → TT v1 v2 T → fI T v1 7 = fI T v2 13 → WH v1 v2 T → WRq v1 v2 T → LGx v1 T → kk ≤ 200 + 35 * (c + 1) → nn ≤ 13000 + 8200 * (c + 1) → X23 v1 v2 v3 x kk nn T) (h : LI v1 v2 v3 v4 kk nn S c) : P_L_law_2150 scL scx Q X23 v1 v2 v3 v4 kk nn S := by
  obtain ⟨hI, o1, o2, o3, l3, tp, fa, wh, wr, lgx, hv, hk, hn⟩ := h
  obtain ⟨AA, GG, DD, dy, wr, gb, ge, td, e6, cd, md, db⟩ := wr
  unfold P_L_law_2150
  refine ⟨o1, ?_⟩
  refine ⟨by show _ ≤ 601024; omega, by show _ ≤ 7293034; omega, ?_⟩
  have wr0 := wr
  obtain ⟨r9, w9, u9, J9, h91, h92, h93, h94⟩ := wr0
  have lg0 := lgx
  obtain ⟨l9, p9, q9, lg9⟩ := lg0
  refine mt_X9_undo hI o1 J9 h91 h92 h93 gb lg9 e6 cd db (fun x956 S955 hJ g957 fc958 _ Kg957 nf1 tz1 => ?_)
  have kz := tz1.1
  have wr := wr_keep hI o2 wr kz.1.1 kz.1.2 fc958 (by decide) (by decide) (by decide)
  have td := td_keep o2 td fc958 (by decide)
  have e6 := (fc958.2 9 6 (by decide) (by decide) v1 o1).trans e6
  have cd := tz1.2.2
  have md := md_keep hI md kz.2 fc958 (by decide) (by decide)
  have lgx := lg_keep o1 lgx g957 fc958 (by decide) (by decide) (by decide)
  have tp := tt_fri tp o1 o2 Kg957 fc958 (by decide) (by decide) (by decide) (by decide)
  have fa := fa_fri fa o1 o2 fc958 (by decide) (by decide)
  have hI := hJ
  have l3 := (gr_len g957 o3).trans l3
  have o1 := gr_ob g957 o1
  have o2 := gr_ob g957 o2
  have o3 := gr_ob g957 o3
  intro _ _
  refine ⟨o2, ?_⟩
  refine ⟨by show _ ≤ 601024; omega, by show _ ≤ 7293034; omega, ?_⟩
  have wr0 := wr
  obtain ⟨-, -, -, -, -, -, ab9, hm9⟩ := wr0
  refine mt_X11_undo hI o2 hm9 ab9 gb md db (fun x960 S959 hJ g961 fc962 _ Kg961 nf2 tz2 => ?_)
  have kz := tz2.1
  have wr := wr_keep hI o2 wr kz.1.1 kz.1.2 fc962 (by decide) (by decide) (by decide)
  have td := td_keep o2 td fc962 (by decide)
  have e6 := (fc962.2 9 6 (by decide) (by decide) v1 o1).trans e6
  have cd := cd_keep hI cd kz.2 fc962 (by decide) (by decide)
  have md : MDd v2 (nxundo DD) S959 := by subst_vars; exact tz2.2.2
  have db : DBd AA (nxundo DD) := db_undo db
  have lgx := lg_keep o1 lgx g961 fc962 (by decide) (by decide) (by decide)
  have tp := tt_fri tp o1 o2 Kg961 fc962 (by decide) (by decide) (by decide) (by decide)
  have fa := fa_fri fa o1 o2 fc962 (by decide) (by decide)
  have wh := wh_set nf1 fc962 (by decide) nf2
  have hI := hJ
  have l3 := (gr_len g961 o3).trans l3
  have o1 := gr_ob g961 o1
  have o2 := gr_ob g961 o2
  have o3 := gr_ob g961 o3
  intro _ _
  unfold P_L_law_2341
  intro x963 ex963
  have back := hb x963 ex963
  exact back _ _ _ hI o1 o2 o3 l3 tp fa wh ⟨AA, GG, _, dy, wr, gb, ge, td, e6, cd, md, db⟩ lgx (by omega) (by omega)
set_option maxHeartbeats 4000000 in
set_option maxRecDepth 20000 in
theorem a_L_law_2163 {scL : Nat} {scx : Nat → Int32} {Q : Int32 → HS → Prop} {X23 : Nat → Nat → Nat → Int32 → Nat → Nat → HS → Prop} {v1 v2 v3 : Nat} {v4 : Int32} {kk nn : Nat} {S : HS} {c : Nat} (hL : scL ≤ 4096) (hc : 8 * c + 8 ≤ scL) (hb : ∀ x : Int32, x = v4 + (8 : Int32) → ∀ (kk nn : Nat) (T : HS), IV T → ob T v1 9 → ob T v2 11 → ob T v3 14 → hN T v3 = 1 → TT v1 v2 T → fI T v1 7 = fI T v2 13 → WH v1 v2 T → WRq v1 v2 T → LGx v1 T → kk ≤ 200 + 35 * (c + 1) → nn ≤ 13000 + 8200 * (c + 1) → X23 v1 v2 v3 x kk nn T) (h : LI v1 v2 v3 v4 kk nn S c) : P_L_law_2163 scL scx Q X23 v1 v2 v3 v4 kk nn S := by
  obtain ⟨hI, o1, o2, o3, l3, tp, fa, wh, wr, lgx, hv, hk, hn⟩ := h
  obtain ⟨AA, GG, DD, dy, wr, gb, ge, td, e6, cd, md, db⟩ := wr
  unfold P_L_law_2163
  refine ⟨o1, ?_⟩
  refine ⟨by show _ ≤ 601024; omega, by show _ ≤ 7293034; omega, ?_⟩
  have wr0 := wr
  obtain ⟨r9, w9, u9, J9, h91, h92, h93, h94⟩ := wr0
  have lg0 := lgx
  obtain ⟨l9, p9, q9, lg9⟩ := lg0
  refine mt_X9_mark hI o1 J9 h91 h92 h93 gb lg9 e6 cd db (fun x965 S964 hJ g966 fc967 Kg966 nf1 tz1 => ?_)
  have kz := tz1.1
  have wr := wr_keep hI o2 wr kz.1.1 kz.1.2 fc967 (by decide) (by decide) (by decide)
  have td := td_keep o2 td fc967 (by decide)
  have e6 := (fc967.2 9 6 (by decide) (by decide) v1 o1).trans e6
  have cd := tz1.2.2
  have md := md_keep hI md kz.2 fc967 (by decide) (by decide)
  have lgx := lg_keep o1 lgx g966 fc967 (by decide) (by decide) (by decide)
  have tp := tt_fri tp o1 o2 Kg966 fc967 (by decide) (by decide) (by decide) (by decide)
  have fa := fa_fri fa o1 o2 fc967 (by decide) (by decide)
  have hI := hJ
  have l3 := (gr_len g966 o3).trans l3
  have o1 := gr_ob g966 o1
  have o2 := gr_ob g966 o2
  have o3 := gr_ob g966 o3
  intro _
  refine ⟨o2, ?_⟩
  refine ⟨by show _ ≤ 601024; omega, by show _ ≤ 7293034; omega, ?_⟩
  have wr0 := wr
  obtain ⟨-, -, -, -, -, -, ab9, hm9⟩ := wr0
  refine mt_X11_mark hI o2 hm9 ab9 gb md db (fun x969 S968 hJ g970 fc971 Kg970 nf2 tz2 => ?_)
  have kz := tz2.1
  have wr := wr_keep hI o2 wr kz.1.1 kz.1.2 fc971 (by decide) (by decide) (by decide)
  have td := td_keep o2 td fc971 (by decide)
  have e6 := (fc971.2 9 6 (by decide) (by decide) v1 o1).trans e6
  have cd := cd_keep hI cd kz.2 fc971 (by decide) (by decide)
  have md : MDd v2 (nxmark DD) S968 := by subst_vars; exact tz2.2.2
  have db : DBd AA (nxmark DD) := db_mark db
  have lgx := lg_keep o1 lgx g970 fc971 (by decide) (by decide) (by decide)
  have tp := tt_fri tp o1 o2 Kg970 fc971 (by decide) (by decide) (by decide) (by decide)
  have fa := fa_fri fa o1 o2 fc971 (by decide) (by decide)
  have wh := wh_set nf1 fc971 (by decide) nf2
  have hI := hJ
  have l3 := (gr_len g970 o3).trans l3
  have o1 := gr_ob g970 o1
  have o2 := gr_ob g970 o2
  have o3 := gr_ob g970 o3
  intro _
  unfold P_L_law_2341
  intro x972 ex972
  have back := hb x972 ex972
  exact back _ _ _ hI o1 o2 o3 l3 tp fa wh ⟨AA, GG, _, dy, wr, gb, ge, td, e6, cd, md, db⟩ lgx (by omega) (by omega)
set_option maxHeartbeats 4000000 in
set_option maxRecDepth 20000 in
theorem a_L_law_2176 {scL : Nat} {scx : Nat → Int32} {Q : Int32 → HS → Prop} {X23 : Nat → Nat → Nat → Int32 → Nat → Nat → HS → Prop} {v1 v2 v3 : Nat} {v4 : Int32} {kk nn : Nat} {S : HS} {c : Nat} (hL : scL ≤ 4096) (hc : 8 * c + 8 ≤ scL) (hb : ∀ x : Int32, x = v4 + (8 : Int32) → ∀ (kk nn : Nat) (T : HS), IV T → ob T v1 9 → ob T v2 11 → ob T v3 14 → hN T v3 = 1 → TT v1 v2 T → fI T v1 7 = fI T v2 13 → WH v1 v2 T → WRq v1 v2 T → LGx v1 T → kk ≤ 200 + 35 * (c + 1) → nn ≤ 13000 + 8200 * (c + 1) → X23 v1 v2 v3 x kk nn T) (h : LI v1 v2 v3 v4 kk nn S c) : P_L_law_2176 scL scx Q X23 v1 v2 v3 v4 kk nn S := by
  obtain ⟨hI, o1, o2, o3, l3, tp, fa, wh, wr, lgx, hv, hk, hn⟩ := h
  obtain ⟨AA, GG, DD, dy, wr, gb, ge, td, e6, cd, md, db⟩ := wr
  unfold P_L_law_2176
  intro x973 ex973
  refine ⟨sc_in (j := 1) hv hc hL ex973 (by omega) (by decide), ?_⟩
  intro x974 ex974
  have k3 := cd_k3 cd
  refine ⟨o1, ?_⟩
  refine ⟨by show _ ≤ 601024; omega, by show _ ≤ 7293034; omega, ?_⟩
  have wr0 := wr
  obtain ⟨r9, w9, u9, J9, h91, h92, h93, h94⟩ := wr0
  have lg0 := lgx
  obtain ⟨l9, p9, q9, lg9⟩ := lg0
  refine mt_X9_back hI o1 J9 h91 h92 h93 gb lg9 e6 cd db (fun x976 S975 hJ g977 fc978 _ Kg977 nf1 tz1 => ?_)
  have kz := tz1.1
  have wr := wr_keep hI o2 wr kz.1.1 kz.1.2 fc978 (by decide) (by decide) (by decide)
  have td := td_keep o2 td fc978 (by decide)
  have e6 := (fc978.2 9 6 (by decide) (by decide) v1 o1).trans e6
  have cd := tz1.2.2
  have md := md_keep hI md kz.2 fc978 (by decide) (by decide)
  have lgx := lg_keep o1 lgx g977 fc978 (by decide) (by decide) (by decide)
  have tp := tt_fri tp o1 o2 Kg977 fc978 (by decide) (by decide) (by decide) (by decide)
  have fa := fa_fri fa o1 o2 fc978 (by decide) (by decide)
  have hI := hJ
  have l3 := (gr_len g977 o3).trans l3
  have o1 := gr_ob g977 o1
  have o2 := gr_ob g977 o2
  have o3 := gr_ob g977 o3
  intro _ _
  intro x979 ex979
  refine ⟨sc_in (j := 1) hv hc hL ex979 (by omega) (by decide), ?_⟩
  intro x980 ex980
  refine ⟨o2, ?_⟩
  refine ⟨by show _ ≤ 601024; omega, by show _ ≤ 7293034; omega, ?_⟩
  have wr0 := wr
  obtain ⟨-, -, -, -, -, -, ab9, hm9⟩ := wr0
  refine mt_X11_back hI o2 hm9 ab9 gb md db (fun x982 S981 hJ g983 fc984 _ Kg983 nf2 tz2 => ?_)
  have kz := tz2.1
  have fe := ans_eq tz1.2.1 (by subst_vars; exact tz2.2.1)
  have wr := wr_keep hI o2 wr kz.1.1 kz.1.2 fc984 (by decide) (by decide) (by decide)
  have td := td_keep o2 td fc984 (by decide)
  have e6 := (fc984.2 9 6 (by decide) (by decide) v1 o1).trans e6
  have cd := cd_keep hI cd kz.2 fc984 (by decide) (by decide)
  have md : MDd v2 (bkF DD x974) S981 := by subst_vars; exact tz2.2.2
  have db : DBd AA (bkF DD x974) := db_back ab9 k3 db
  have lgx := lg_keep o1 lgx g983 fc984 (by decide) (by decide) (by decide)
  have tp := tt_fri tp o1 o2 Kg983 fc984 (by decide) (by decide) (by decide) (by decide)
  have fa := fa_fri fa o1 o2 fc984 (by decide) (by decide)
  have wh := wh_set nf1 fc984 (by decide) nf2
  have hI := hJ
  have l3 := (gr_len g983 o3).trans l3
  have o1 := gr_ob g983 o1
  have o2 := gr_ob g983 o2
  have o3 := gr_ob g983 o3
  intro _ _
  refine ⟨fun c985 => ?_, fun c985 => absurd fe c985⟩
  unfold P_L_law_2341
  intro x986 ex986
  have back := hb x986 ex986
  exact back _ _ _ hI o1 o2 o3 l3 tp fa wh ⟨AA, GG, _, dy, wr, gb, ge, td, e6, cd, md, db⟩ lgx (by omega) (by omega)
set_option maxHeartbeats 4000000 in
set_option maxRecDepth 20000 in
theorem a_L_law_2201 {scL : Nat} {scx : Nat → Int32} {Q : Int32 → HS → Prop} {X23 : Nat → Nat → Nat → Int32 → Nat → Nat → HS → Prop} {v1 v2 v3 : Nat} {v4 : Int32} {kk nn : Nat} {S : HS} {c : Nat} (hL : scL ≤ 4096) (hc : 8 * c + 8 ≤ scL) (hb : ∀ x : Int32, x = v4 + (8 : Int32) → ∀ (kk nn : Nat) (T : HS), IV T → ob T v1 9 → ob T v2 11 → ob T v3 14 → hN T v3 = 1 → TT v1 v2 T → fI T v1 7 = fI T v2 13 → WH v1 v2 T → WRq v1 v2 T → LGx v1 T → kk ≤ 200 + 35 * (c + 1) → nn ≤ 13000 + 8200 * (c + 1) → X23 v1 v2 v3 x kk nn T) (h : LI v1 v2 v3 v4 kk nn S c) : P_L_law_2201 scL scx Q X23 v1 v2 v3 v4 kk nn S := by
  obtain ⟨hI, o1, o2, o3, l3, tp, fa, wh, wr, lgx, hv, hk, hn⟩ := h
  obtain ⟨AA, GG, DD, dy, wr, gb, ge, td, e6, cd, md, db⟩ := wr
  unfold P_L_law_2201
  intro x987 ex987
  refine ⟨sc_in (j := 1) hv hc hL ex987 (by omega) (by decide), ?_⟩
  intro x988 ex988
  intro x989 ex989
  refine ⟨sc_in (j := 2) hv hc hL ex989 (by omega) (by decide), ?_⟩
  intro x990 ex990
  refine ⟨o1, ?_⟩
  refine ⟨by show _ ≤ 601024; omega, by show _ ≤ 7293034; omega, ?_⟩
  refine mz_X9_walker hI o1 (fun x992 S991 hJ g993 fc994 Kg993 nf1 kz => ?_)
  have wr := wr_keep hI o2 wr kz.1.1 kz.1.2 fc994 (by decide) (by decide) (by decide)
  have td := td_keep o2 td fc994 (by decide)
  have e6 := (fc994.2 9 6 (by decide) (by decide) v1 o1).trans e6
  have cd := cd_keep hI cd kz.2.2 fc994 (by decide) (by decide)
  have md := md_keep hI md kz.2.1 fc994 (by decide) (by decide)
  have lgx := lg_keep o1 lgx g993 fc994 (by decide) (by decide) (by decide)
  have tp := tt_fri tp o1 o2 Kg993 fc994 (by decide) (by decide) (by decide) (by decide)
  have fa := fa_fri fa o1 o2 fc994 (by decide) (by decide)
  have hI := hJ
  have l3 := (gr_len g993 o3).trans l3
  have o1 := gr_ob g993 o1
  have o2 := gr_ob g993 o2
  have o3 := gr_ob g993 o3
  intro _
  intro x995 ex995
  refine ⟨sc_in (j := 1) hv hc hL ex995 (by omega) (by decide), ?_⟩
  intro x996 ex996
  intro x997 ex997
  refine ⟨sc_in (j := 2) hv hc hL ex997 (by omega) (by decide), ?_⟩
  intro x998 ex998
  refine ⟨o2, ?_⟩
  refine ⟨by show _ ≤ 601024; omega, by show _ ≤ 7293034; omega, ?_⟩
  refine mz_X11_walker hI o2 (fun x1000 S999 hJ g1001 fc1002 Kg1001 nf2 kz => ?_)
  have wr := wr_keep hI o2 wr kz.1.1 kz.1.2 fc1002 (by decide) (by decide) (by decide)
  have td := td_keep o2 td fc1002 (by decide)
  have e6 := (fc1002.2 9 6 (by decide) (by decide) v1 o1).trans e6
  have cd := cd_keep hI cd kz.2.2 fc1002 (by decide) (by decide)
  have md := md_keep hI md kz.2.1 fc1002 (by decide) (by decide)
  have lgx := lg_keep o1 lgx g1001 fc1002 (by decide) (by decide) (by decide)
  have tp := tt_fri tp o1 o2 Kg1001 fc1002 (by decide) (by decide) (by decide) (by decide)
  have fa := fa_fri fa o1 o2 fc1002 (by decide) (by decide)
  have wh := wh_set nf1 fc1002 (by decide) nf2
  have hI := hJ
  have l3 := (gr_len g1001 o3).trans l3
  have o1 := gr_ob g1001 o1
  have o2 := gr_ob g1001 o2
  have o3 := gr_ob g1001 o3
  intro _
  unfold P_L_law_2341
  intro x1003 ex1003
  have back := hb x1003 ex1003
  exact back _ _ _ hI o1 o2 o3 l3 tp fa wh ⟨AA, GG, _, dy, wr, gb, ge, td, e6, cd, md, db⟩ lgx (by omega) (by omega)
set_option maxHeartbeats 4000000 in
set_option maxRecDepth 20000 in
theorem a_L_law_2238 {scL : Nat} {scx : Nat → Int32} {Q : Int32 → HS → Prop} {X23 : Nat → Nat → Nat → Int32 → Nat → Nat → HS → Prop} {v1 v2 v3 : Nat} {v4 : Int32} {kk nn : Nat} {S : HS} {c : Nat} (hL : scL ≤ 4096) (hc : 8 * c + 8 ≤ scL) (hb : ∀ x : Int32, x = v4 + (8 : Int32) → ∀ (kk nn : Nat) (T : HS), IV T → ob T v1 9 → ob T v2 11 → ob T v3 14 → hN T v3 = 1 → TT v1 v2 T → fI T v1 7 = fI T v2 13 → WH v1 v2 T → WRq v1 v2 T → LGx v1 T → kk ≤ 200 + 35 * (c + 1) → nn ≤ 13000 + 8200 * (c + 1) → X23 v1 v2 v3 x kk nn T) (h : LI v1 v2 v3 v4 kk nn S c) : P_L_law_2238 scL scx Q X23 v1 v2 v3 v4 kk nn S := by
  obtain ⟨hI, o1, o2, o3, l3, tp, fa, wh, wr, lgx, hv, hk, hn⟩ := h
  obtain ⟨AA, GG, DD, dy, wr, gb, ge, td, e6, cd, md, db⟩ := wr
  unfold P_L_law_2238
  intro x1004 ex1004
  refine ⟨sc_in (j := 1) hv hc hL ex1004 (by omega) (by decide), ?_⟩
  intro x1005 ex1005
  intro x1006 ex1006
  refine ⟨sc_in (j := 2) hv hc hL ex1006 (by omega) (by decide), ?_⟩
  intro x1007 ex1007
  refine ⟨o1, ?_⟩
  refine ⟨by show _ ≤ 601024; omega, by show _ ≤ 7293034; omega, ?_⟩
  refine mz_X9_road hI o1 (fun x1009 S1008 hJ g1010 fc1011 Kg1010 nf1 kz => ?_)
  have wr := wr_keep hI o2 wr kz.1.1 kz.1.2 fc1011 (by decide) (by decide) (by decide)
  have td := td_keep o2 td fc1011 (by decide)
  have e6 := (fc1011.2 9 6 (by decide) (by decide) v1 o1).trans e6
  have cd := cd_keep hI cd kz.2.2 fc1011 (by decide) (by decide)
  have md := md_keep hI md kz.2.1 fc1011 (by decide) (by decide)
  have lgx := lg_keep o1 lgx g1010 fc1011 (by decide) (by decide) (by decide)
  have tp := tt_fri tp o1 o2 Kg1010 fc1011 (by decide) (by decide) (by decide) (by decide)
  have fa := fa_fri fa o1 o2 fc1011 (by decide) (by decide)
  have hI := hJ
  have l3 := (gr_len g1010 o3).trans l3
  have o1 := gr_ob g1010 o1
  have o2 := gr_ob g1010 o2
  have o3 := gr_ob g1010 o3
  intro _
  intro x1012 ex1012
  refine ⟨sc_in (j := 1) hv hc hL ex1012 (by omega) (by decide), ?_⟩
  intro x1013 ex1013
  intro x1014 ex1014
  refine ⟨sc_in (j := 2) hv hc hL ex1014 (by omega) (by decide), ?_⟩
  intro x1015 ex1015
  refine ⟨o2, ?_⟩
  refine ⟨by show _ ≤ 601024; omega, by show _ ≤ 7293034; omega, ?_⟩
  refine mz_X11_road hI o2 (fun x1017 S1016 hJ g1018 fc1019 Kg1018 nf2 kz => ?_)
  have wr := wr_keep hI o2 wr kz.1.1 kz.1.2 fc1019 (by decide) (by decide) (by decide)
  have td := td_keep o2 td fc1019 (by decide)
  have e6 := (fc1019.2 9 6 (by decide) (by decide) v1 o1).trans e6
  have cd := cd_keep hI cd kz.2.2 fc1019 (by decide) (by decide)
  have md := md_keep hI md kz.2.1 fc1019 (by decide) (by decide)
  have lgx := lg_keep o1 lgx g1018 fc1019 (by decide) (by decide) (by decide)
  have tp := tt_fri tp o1 o2 Kg1018 fc1019 (by decide) (by decide) (by decide) (by decide)
  have fa := fa_fri fa o1 o2 fc1019 (by decide) (by decide)
  have wh := wh_set nf1 fc1019 (by decide) nf2
  have hI := hJ
  have l3 := (gr_len g1018 o3).trans l3
  have o1 := gr_ob g1018 o1
  have o2 := gr_ob g1018 o2
  have o3 := gr_ob g1018 o3
  intro _
  unfold P_L_law_2341
  intro x1020 ex1020
  have back := hb x1020 ex1020
  exact back _ _ _ hI o1 o2 o3 l3 tp fa wh ⟨AA, GG, _, dy, wr, gb, ge, td, e6, cd, md, db⟩ lgx (by omega) (by omega)
set_option maxHeartbeats 4000000 in
set_option maxRecDepth 20000 in
theorem a_L_law_2275 {scL : Nat} {scx : Nat → Int32} {Q : Int32 → HS → Prop} {X23 : Nat → Nat → Nat → Int32 → Nat → Nat → HS → Prop} {v1 v2 v3 : Nat} {v4 : Int32} {kk nn : Nat} {S : HS} {c : Nat} (hL : scL ≤ 4096) (hc : 8 * c + 8 ≤ scL) (hb : ∀ x : Int32, x = v4 + (8 : Int32) → ∀ (kk nn : Nat) (T : HS), IV T → ob T v1 9 → ob T v2 11 → ob T v3 14 → hN T v3 = 1 → TT v1 v2 T → fI T v1 7 = fI T v2 13 → WH v1 v2 T → WRq v1 v2 T → LGx v1 T → kk ≤ 200 + 35 * (c + 1) → nn ≤ 13000 + 8200 * (c + 1) → X23 v1 v2 v3 x kk nn T) (h : LI v1 v2 v3 v4 kk nn S c) : P_L_law_2275 scL scx Q X23 v1 v2 v3 v4 kk nn S := by
  obtain ⟨hI, o1, o2, o3, l3, tp, fa, wh, wr, lgx, hv, hk, hn⟩ := h
  obtain ⟨AA, GG, DD, dy, wr, gb, ge, td, e6, cd, md, db⟩ := wr
  unfold P_L_law_2275
  intro x1021 ex1021
  refine ⟨sc_in (j := 1) hv hc hL ex1021 (by omega) (by decide), ?_⟩
  intro x1022 ex1022
  refine ⟨by show _ ≤ 601024; omega, by show _ ≤ 7293034; omega, hI, o1, o3, l3, fun x1024 S1023 hJ g1025 fc1026 KL KL7 KL8 KLx _ => ?_⟩
  have e6 := (fc1026.2 9 6 (by decide) (by decide) v1 o1).trans e6
  have cd := cd_led hI l3 cd KLx
  have md := md_led hI l3 md KLx
  have wr := wr_keep hI o2 wr KL7 KL8 fc1026 (by decide) (by decide) (by decide)
  have td := td_keep o2 td fc1026 (by decide)
  have lgx := lg_keep o1 lgx g1025 fc1026 (by decide) (by decide) (by decide)
  have tp := tt_fri tp o1 o2 KL fc1026 (by decide) (by decide) (by decide) (by decide)
  have fa := fa_fri fa o1 o2 fc1026 (by decide) (by decide)
  have wh := wh_fri wh o1 o2 fc1026 (by decide) (by decide) (by decide)
  have hI := hJ
  have l3 := (gr_len g1025 o3).trans l3
  have o1 := gr_ob g1025 o1
  have o2 := gr_ob g1025 o2
  have o3 := gr_ob g1025 o3
  intro x1027 ex1027
  refine ⟨sc_in (j := 1) hv hc hL ex1027 (by omega) (by decide), ?_⟩
  intro x1028 ex1028
  refine ⟨o2, ?_⟩
  refine ⟨by show _ ≤ 601024; omega, by show _ ≤ 7293034; omega, ?_⟩
  refine mz_X11_led hI o2 (fun x1030 S1029 hJ g1031 fc1032 Kg1031 kz => ?_)
  have wr := wr_keep hI o2 wr kz.1.1 kz.1.2 fc1032 (by decide) (by decide) (by decide)
  have td := td_keep o2 td fc1032 (by decide)
  have e6 := (fc1032.2 9 6 (by decide) (by decide) v1 o1).trans e6
  have cd := cd_keep hI cd kz.2.2 fc1032 (by decide) (by decide)
  have md := md_keep hI md kz.2.1 fc1032 (by decide) (by decide)
  have lgx := lg_keep o1 lgx g1031 fc1032 (by decide) (by decide) (by decide)
  have tp := tt_fri tp o1 o2 Kg1031 fc1032 (by decide) (by decide) (by decide) (by decide)
  have fa := fa_fri fa o1 o2 fc1032 (by decide) (by decide)
  have wh := wh_fri wh o1 o2 fc1032 (by decide) (by decide) (by decide)
  have hI := hJ
  have l3 := (gr_len g1031 o3).trans l3
  have o1 := gr_ob g1031 o1
  have o2 := gr_ob g1031 o2
  have o3 := gr_ob g1031 o3
  intro _
  unfold P_L_law_2341
  intro x1033 ex1033
  have back := hb x1033 ex1033
  exact back _ _ _ hI o1 o2 o3 l3 tp fa wh ⟨AA, GG, _, dy, wr, gb, ge, td, e6, cd, md, db⟩ lgx (by omega) (by omega)
set_option maxHeartbeats 4000000 in
set_option maxRecDepth 20000 in
theorem a_L_law_2303 {scL : Nat} {scx : Nat → Int32} {Q : Int32 → HS → Prop} {X23 : Nat → Nat → Nat → Int32 → Nat → Nat → HS → Prop} {v1 v2 v3 : Nat} {v4 : Int32} {kk nn : Nat} {S : HS} {c : Nat} (hL : scL ≤ 4096) (hc : 8 * c + 8 ≤ scL) (hb : ∀ x : Int32, x = v4 + (8 : Int32) → ∀ (kk nn : Nat) (T : HS), IV T → ob T v1 9 → ob T v2 11 → ob T v3 14 → hN T v3 = 1 → TT v1 v2 T → fI T v1 7 = fI T v2 13 → WH v1 v2 T → WRq v1 v2 T → LGx v1 T → kk ≤ 200 + 35 * (c + 1) → nn ≤ 13000 + 8200 * (c + 1) → X23 v1 v2 v3 x kk nn T) (h : LI v1 v2 v3 v4 kk nn S c) : P_L_law_2303 scL scx Q X23 v1 v2 v3 v4 kk nn S := by
  obtain ⟨hI, o1, o2, o3, l3, tp, fa, wh, wr, lgx, hv, hk, hn⟩ := h
  obtain ⟨AA, GG, DD, dy, wr, gb, ge, td, e6, cd, md, db⟩ := wr
  unfold P_L_law_2303
  intro x1034 ex1034
  refine ⟨sc_in (j := 1) hv hc hL ex1034 (by omega) (by decide), ?_⟩
  intro x1035 ex1035
  refine ⟨o1, ?_⟩
  refine ⟨by show _ ≤ 601024; omega, by show _ ≤ 7293034; omega, ?_⟩
  refine m_X9_size hI o1 (fun x1037 S1036 hJ g1038 pp => ?_)
  subst pp
  intro _
  intro x1040 ex1040
  refine ⟨sc_in (j := 1) hv hc hL ex1040 (by omega) (by decide), ?_⟩
  intro x1041 ex1041
  refine ⟨o2, ?_⟩
  refine ⟨by show _ ≤ 601024; omega, by show _ ≤ 7293034; omega, ?_⟩
  refine mz_X11_size hI o2 (fun x1043 S1042 hJ g1044 fc1045 Kg1044 kz => ?_)
  have wr := wr_keep hI o2 wr kz.1.1 kz.1.2 fc1045 (by decide) (by decide) (by decide)
  have td := td_keep o2 td fc1045 (by decide)
  have e6 := (fc1045.2 9 6 (by decide) (by decide) v1 o1).trans e6
  have cd := cd_keep hI cd kz.2.2 fc1045 (by decide) (by decide)
  have md := md_keep hI md kz.2.1 fc1045 (by decide) (by decide)
  have lgx := lg_keep o1 lgx g1044 fc1045 (by decide) (by decide) (by decide)
  have tp := tt_fri tp o1 o2 Kg1044 fc1045 (by decide) (by decide) (by decide) (by decide)
  have fa := fa_fri fa o1 o2 fc1045 (by decide) (by decide)
  have wh := wh_fri wh o1 o2 fc1045 (by decide) (by decide) (by decide)
  have hI := hJ
  have l3 := (gr_len g1044 o3).trans l3
  have o1 := gr_ob g1044 o1
  have o2 := gr_ob g1044 o2
  have o3 := gr_ob g1044 o3
  intro _
  unfold P_L_law_2341
  intro x1046 ex1046
  have back := hb x1046 ex1046
  exact back _ _ _ hI o1 o2 o3 l3 tp fa wh ⟨AA, GG, _, dy, wr, gb, ge, td, e6, cd, md, db⟩ lgx (by omega) (by omega)
set_option maxHeartbeats 4000000 in
set_option maxRecDepth 20000 in
theorem a_L_law_2328 {scL : Nat} {scx : Nat → Int32} {Q : Int32 → HS → Prop} {X23 : Nat → Nat → Nat → Int32 → Nat → Nat → HS → Prop} {v1 v2 v3 : Nat} {v4 : Int32} {kk nn : Nat} {S : HS} {c : Nat} (hL : scL ≤ 4096) (hc : 8 * c + 8 ≤ scL) (hb : ∀ x : Int32, x = v4 + (8 : Int32) → ∀ (kk nn : Nat) (T : HS), IV T → ob T v1 9 → ob T v2 11 → ob T v3 14 → hN T v3 = 1 → TT v1 v2 T → fI T v1 7 = fI T v2 13 → WH v1 v2 T → WRq v1 v2 T → LGx v1 T → kk ≤ 200 + 35 * (c + 1) → nn ≤ 13000 + 8200 * (c + 1) → X23 v1 v2 v3 x kk nn T) (h : LI v1 v2 v3 v4 kk nn S c) : P_L_law_2328 scL scx Q X23 v1 v2 v3 v4 kk nn S := by
  obtain ⟨hI, o1, o2, o3, l3, tp, fa, wh, wr, lgx, hv, hk, hn⟩ := h
  obtain ⟨AA, GG, DD, dy, wr, gb, ge, td, e6, cd, md, db⟩ := wr
  unfold P_L_law_2328
  refine ⟨o1, ?_⟩
  refine ⟨by show _ ≤ 601024; omega, by show _ ≤ 7293034; omega, ?_⟩
  refine m_X9_trouble hI o1 (fun x1048 S1047 hJ g1049 pp => ?_)
  subst pp
  intro _
  refine ⟨o2, ?_⟩
  refine ⟨by show _ ≤ 601024; omega, by show _ ≤ 7293034; omega, ?_⟩
  refine mz_X11_trouble hI o2 (fun x1052 S1051 hJ g1053 fc1054 Kg1053 kz => ?_)
  have wr := wr_keep hI o2 wr kz.1.1 kz.1.2 fc1054 (by decide) (by decide) (by decide)
  have td := td_keep o2 td fc1054 (by decide)
  have e6 := (fc1054.2 9 6 (by decide) (by decide) v1 o1).trans e6
  have cd := cd_keep hI cd kz.2.2 fc1054 (by decide) (by decide)
  have md := md_keep hI md kz.2.1 fc1054 (by decide) (by decide)
  have lgx := lg_keep o1 lgx g1053 fc1054 (by decide) (by decide) (by decide)
  have tp := tt_fri tp o1 o2 Kg1053 fc1054 (by decide) (by decide) (by decide) (by decide)
  have fa := fa_fri fa o1 o2 fc1054 (by decide) (by decide)
  have wh := wh_fri wh o1 o2 fc1054 (by decide) (by decide) (by decide)
  have hI := hJ
  have l3 := (gr_len g1053 o3).trans l3
  have o1 := gr_ob g1053 o1
  have o2 := gr_ob g1053 o2
  have o3 := gr_ob g1053 o3
  intro _
  unfold P_L_law_2341
  intro x1055 ex1055
  have back := hb x1055 ex1055
  exact back _ _ _ hI o1 o2 o3 l3 tp fa wh ⟨AA, GG, _, dy, wr, gb, ge, td, e6, cd, md, db⟩ lgx (by omega) (by omega)
set_option maxHeartbeats 4000000 in
set_option maxRecDepth 20000 in
theorem a_L_law_2341 {scL : Nat} {scx : Nat → Int32} {Q : Int32 → HS → Prop} {X23 : Nat → Nat → Nat → Int32 → Nat → Nat → HS → Prop} {v1 v2 v3 : Nat} {v4 : Int32} {kk nn : Nat} {S : HS} {c : Nat} (hL : scL ≤ 4096) (hc : 8 * c + 8 ≤ scL) (hb : ∀ x : Int32, x = v4 + (8 : Int32) → ∀ (kk nn : Nat) (T : HS), IV T → ob T v1 9 → ob T v2 11 → ob T v3 14 → hN T v3 = 1 → TT v1 v2 T → fI T v1 7 = fI T v2 13 → WH v1 v2 T → WRq v1 v2 T → LGx v1 T → kk ≤ 200 + 35 * (c + 1) → nn ≤ 13000 + 8200 * (c + 1) → X23 v1 v2 v3 x kk nn T) (h : LI v1 v2 v3 v4 kk nn S c) : P_L_law_2341 scL scx Q X23 v1 v2 v3 v4 kk nn S := by
  obtain ⟨hI, o1, o2, o3, l3, tp, fa, wh, wr, lgx, hv, hk, hn⟩ := h
  obtain ⟨AA, GG, DD, dy, wr, gb, ge, td, e6, cd, md, db⟩ := wr
  unfold P_L_law_2341
  intro x1056 ex1056
  have back := hb x1056 ex1056
  exact back _ _ _ hI o1 o2 o3 l3 tp fa wh ⟨AA, GG, _, dy, wr, gb, ge, td, e6, cd, md, db⟩ lgx (by omega) (by omega)
end
section
theorem uz_1 {S : HS} {a : Nat} (E : S = nW S00 a 9 0) : UZ S := by
  have r : ∀ x j, fR S x j = none := fun x j => by
    rw [E]
    by_cases h : x = a
    · rw [h]
      exact congrFun (va_up_self (fR S00) a (fun _ => none)) j
    · exact congrFun (va_up_ne (fR S00) _ h) j
  refine ⟨⟨fun x j b e => ?_, fun x j x' j' b e => ?_⟩, fun x o => ?_⟩
  · rw [r] at e; cases e
  · rw [r] at e; cases e
  · exfalso
    rw [E] at o
    obtain ⟨o1, o2⟩ := o
    have o1 : x ∈ ([] : List Nat) ++ [a] := o1
    have o1 : x = a := by simpa using o1
    have o2 : va_up (hK S00) a 9 x = 8 := o2
    rw [o1, va_up_self] at o2
    exact absurd o2 (by decide)
theorem iv_arr {S T : HS} {a q n : Nat} (hI : IV S) (ha : a ∉ hL S) (E1 : T = nW S a q n) (hq : 12 ≤ q ∧ q < 16) : IV T := by
  have h := x_arr (E := []) (by rw [ms_nil]; exact hI) ha (by simp) E1 hq
  rw [ms_nil] at h
  exact h
theorem sc_cmp {L c : Nat} {v4 : Int32} (hL : L ≤ 4096) (hv : v4 = nI (8 * c)) (hcc : c ≤ 513) (h : ¬ (nI L - (8 : Int32)) < v4) : 8 * c + 8 ≤ L := by
  have e8 : (8 : Int32).toInt = 8 := by decide
  have eL : (nI L).toInt = (L : Int) := nI_toInt (by omega)
  have ec : (nI (8 * c)).toInt = ((8 * c : Nat) : Int) := nI_toInt (by omega)
  have es : (nI L - (8 : Int32)).toInt = (L : Int) - 8 := by
    rw [Int32.toInt_sub, eL, e8]
    exact Int.bmod_eq_of_le (by omega) (by omega)
  have h1 := Int32.le_iff_toInt_le.mp (Int32.not_lt.mp h)
  rw [hv, ec, es] at h1
  omega
theorem sc_next {v4 x : Int32} {c : Nat} (hv : v4 = nI (8 * c)) (hx : x = v4 + (8 : Int32)) : x = nI (8 * (c + 1)) := by
  have h8 : (8 : Int32) = nI 8 := by decide
  have e : 8 * c + 8 = 8 * (c + 1) := by omega
  rw [hx, hv, h8, nI_add, e]
set_option maxRecDepth 20000 in
set_option maxHeartbeats 4000000 in
theorem lp_L_law {scL : Nat} {scx : Nat → Int32} {Q : Int32 → HS → Prop} {v1 v2 v3 : Nat} (hL : scL ≤ 4096) (hQ : ∀ S, Q 1 S) : ∀ (d c : Nat), c + d = 513 → ∀ (v4 : Int32) (kk nn : Nat) (S : HS), LI v1 v2 v3 v4 kk nn S c → ∀ X23 : Nat → Nat → Nat → Int32 → Nat → Nat → HS → Prop, (∀ (v1 v2 v3 : Nat) (v4 : Int32) (kk nn : Nat) (S : HS), B_L_law_23 scL scx Q X23 v1 v2 v3 v4 kk nn S → X23 v1 v2 v3 v4 kk nn S) → X23 v1 v2 v3 v4 kk nn S := by
  intro d
  induction d with
  | zero =>
    intro c hcd v4 kk nn S h X23 hX
    have h' := h
    obtain ⟨-, -, -, -, -, -, -, -, -, -, hv, hk, hn⟩ := h'
    refine hX _ _ _ _ _ _ _ ⟨fun _ => ⟨by show _ ≤ 601024; omega, by show _ ≤ 7293034; omega, rfl, hQ S⟩, fun hcn => ?_⟩
    have hc := sc_cmp hL hv (by omega) hcn
    omega
  | succ d ih =>
    intro c hcd v4 kk nn S h X23 hX
    have h' := h
    obtain ⟨-, -, -, -, -, -, -, -, -, -, hv, hk, hn⟩ := h'
    refine hX _ _ _ _ _ _ _ ⟨fun _ => ⟨by show _ ≤ 601024; omega, by show _ ≤ 7293034; omega, rfl, hQ S⟩, fun hcn => ?_⟩
    have hc := sc_cmp hL hv (by omega) hcn
    have hb : ∀ x : Int32, x = v4 + (8 : Int32) → ∀ (kk nn : Nat) (T : HS), IV T → ob T v1 9 → ob T v2 11 → ob T v3 14 → hN T v3 = 1 → TT v1 v2 T → fI T v1 7 = fI T v2 13 → WH v1 v2 T → WRq v1 v2 T → LGx v1 T → kk ≤ 200 + 35 * (c + 1) → nn ≤ 13000 + 8200 * (c + 1) → X23 v1 v2 v3 x kk nn T := fun x ex kk nn T i1 i2 i3 i4 i5 i6 i6a i6b i6c i6d i7 i8 => ih (c + 1) (by omega) x kk nn T ⟨i1, i2, i3, i4, i5, i6, i6a, i6b, i6c, i6d, sc_next hv ex, i7, i8⟩ X23 hX
    refine ⟨sc_in0 hv hc hL, fun x ex => ?_⟩
    exact ⟨fun _ => a_L_law_2341 hL hc hb h, fun _ => a_L_law_216 hL hc hb h, fun _ => a_L_law_289 hL hc hb h, fun _ => a_L_law_314 hL hc hb h, fun _ => a_L_law_327 hL hc hb h, fun _ => a_L_law_340 hL hc hb h, fun _ => a_L_law_457 hL hc hb h, fun _ => a_L_law_560 hL hc hb h, fun _ => a_L_law_663 hL hc hb h, fun _ => a_L_law_712 hL hc hb h, fun _ => a_L_law_761 hL hc hb h, fun _ => a_L_law_834 hL hc hb h, fun _ => a_L_law_895 hL hc hb h, fun _ => a_L_law_984 hL hc hb h, fun _ => a_L_law_1045 hL hc hb h, fun _ => a_L_law_1106 hL hc hb h, fun _ => a_L_law_1183 hL hc hb h, fun _ => a_L_law_1232 hL hc hb h, fun _ => a_L_law_1349 hL hc hb h, fun _ => a_L_law_1436 hL hc hb h, fun _ => a_L_law_1539 hL hc hb h, fun _ => a_L_law_1612 hL hc hb h, fun _ => a_L_law_1685 hL hc hb h, fun _ => a_L_law_1772 hL hc hb h, fun _ => a_L_law_1833 hL hc hb h, fun _ => a_L_law_1858 hL hc hb h, fun _ => a_L_law_1895 hL hc hb h, fun _ => a_L_law_1908 hL hc hb h, fun _ => a_L_law_1969 hL hc hb h, fun _ => a_L_law_2018 hL hc hb h, fun _ => a_L_law_2043 hL hc hb h, fun _ => a_L_law_2096 hL hc hb h, fun _ => a_L_law_2137 hL hc hb h, fun _ => a_L_law_2150 hL hc hb h, fun _ => a_L_law_2163 hL hc hb h, fun _ => a_L_law_2176 hL hc hb h, fun _ => a_L_law_2201 hL hc hb h, fun _ => a_L_law_2238 hL hc hb h, fun _ => a_L_law_2275 hL hc hb h, fun _ => a_L_law_2303 hL hc hb h, fun _ => a_L_law_2328 hL hc hb h⟩
theorem p_L_law {scL : Nat} {scx : Nat → Int32} {Q : Int32 → HS → Prop} (hL : scL ≤ 4096) (hQ : ∀ S, Q 1 S) : P_L_law_0 scL scx Q 0 0 S00 := by
  unfold P_L_law_0
  refine ⟨by decide, by decide, fun a1 q1 S1 e1 => ⟨by decide, by decide, ?_⟩⟩
  have hc : P_X9_init a1 (fun T => IV T ∧ ob T a1 9 ∧ fI T a1 1 = 0) S1 := m_X9_new e1 (fun T i o _ t => ⟨i, o, t⟩)
  have hz := cm_X9_init (Q3 := fun T => (IV T ∧ ob T a1 9 ∧ fI T a1 1 = 0) ∧ ZV T ∧ ∀ dy, fR T a1 6 = some dy → fI T dy 0 = -1) (kzz_X9_init hc (zv_1 e1)) (sz_X9_init hc) (fun T a b => ⟨a.1, a.2, b.2⟩)
  refine cm_X9_init (kg_X9_init hz) (ku_X9_init hz (uz_1 e1)) (fun S2 h2 hu _ => ?_)
  obtain ⟨⟨⟨i2, o1, t2⟩, zv, hw6⟩, K0⟩ := h2
  have uz := hu.2.1
  have ob1 : ob S1 a1 9 := ob_of_new e1
  have z1 : fI S1 a1 = fun _ => 0 := by rw [e1]; exact va_up_self _ _ _
  have f7 : fI S2 a1 7 = 0 := (K0.2 (9, 7) (by decide) a1 ob1).trans (by rw [z1])
  have f9 : fI S2 a1 9 = 0 := (K0.2 (9, 9) (by decide) a1 ob1).trans (by rw [z1])
  refine ⟨by decide, by decide, fun a2 q2 S3 e3 => ⟨by decide, by decide, ?_⟩⟩
  have hm : P_X11_init a2 (fun T => IV T ∧ Gr S2 T ∧ ob T a2 11 ∧ FRI [] [] S2 T) S3 := m_X11_init i2 q2 e3 (fun T i g1 _ f o _ => ⟨i, g1, o, f⟩)
  refine cm_X11_init (sr_X11_init hm e3) hm (fun S4 h4 _ _ => ?_)
  obtain ⟨⟨i4, g4, o2, fc⟩, F, g, bx, h5, h6, h13, hm2, -, h3n, f21, f22, f23, g19, g20, g24, g25⟩ := h4
  refine ⟨by decide, by decide, fun a3 q3 S5 e5 => ?_⟩
  subst e3
  have tt := tt_start i4 q2 o1 i2 t2 bx h5 h6
  have wrs := fun (a3 : Nat) (U : HS) => wr_start (a3 := a3) (U := U) i2 o1 uz q2 bx h3n
  have tds := fun (a3 : Nat) (U : HS) => td_start (a3 := a3) (U := U) q2 bx h3n
  have cds := fun (a3 : Nat) (U : HS) => cd_start (a3 := a3) (U := U) i2 o1 uz zv hw6 q2 bx
  have mds := fun (a3 : Nat) (U : HS) => md_start (a3 := a3) (U := U) q2 bx f21 f22 f23 g19 g20 g24 g25
  have lgs := fun (a3 : Nat) (U : HS) => lg_start (a3 := a3) (U := U) i2 o1 uz q2 bx
  have f7 := (fc.1 9 7 (by decide) (by decide) a1 o1).trans f7
  have f9 := (fc.1 9 9 (by decide) (by decide) a1 o1).trans f9
  have bm := bx.2.2.2.2.2.2.1
  have o1 := gr_ob g4 o1
  have n1 := (xp_new (v := a3) q3 e5 a1 o1.1).2.2.2 (fun z => q3 (z ▸ o1.1))
  have n2 := (xp_new (v := a3) q3 e5 a2 o2.1).2.2.2 (fun z => q3 (z ▸ o2.1))
  have tt := tt_K tt o1 o2 (k2_W (k2_rf S4) q3 e5) (by rw [n1.2.2]) (by rw [n1.1]) (by rw [n2.2.2]) (by rw [n2.1])
  have fa : fI S5 a1 7 = fI S5 a2 13 := by rw [n1.1, n2.1, f7, bm, h13]
  have wh : WH a1 a2 S5 := by
    unfold WH
    rw [n1.1, n2.1, f9, bm, hm2]
    exact ⟨fun z => absurd z (by decide), fun _ => rfl⟩
  obtain ⟨dy, e6, cd0⟩ := cds a3 S5 q3 e5
  exact fun X23 hX => lp_L_law hL hQ 513 0 rfl _ _ _ _ ⟨iv_arr i4 q3 e5 (by omega), gr_ob (gr_of_new e5 q3) o1, gr_ob (gr_of_new e5 q3) o2, ob_of_new e5, by rw [e5]; exact va_up_self _ _ _, tt, fa, wh, ⟨A00, G00, D00, dy, wrs a3 S5 q3 e5, gb_00, gz_00, Or.inl (tds a3 S5 q3 e5), e6, cd0, mds a3 S5 q3 e5, db_00⟩, lgs a3 S5 q3 e5, by rw [Nat.mul_zero, nI_0], by omega, by omega⟩ X23 hX
/-- the law's walk, out of what is still open: C, E (the start) and ht (led) -/
theorem whole_open {X : CX} {scb scL : Nat} {scx : Nat → Int32} (C : Cx X cL_law RL 7 rm_L_law) (E : LE X scb scL scx (fun _ _ => True)) (ht : LD X) (hL : scL ≤ 4096) : WS X 7 0 0 0 [(0, .ref scb)] [] S00 := T_L_law_0 C E ht trivial (p_L_law hL (fun _ => trivial))
end
