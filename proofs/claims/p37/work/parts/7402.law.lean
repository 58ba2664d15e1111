def P_L_law_1285 (scL : Nat) (scx : Nat → Int32) (Q : Int32 → HS → Prop) (X23 : Nat → Nat → Nat → Int32 → Nat → Nat → HS → Prop) (v1 : Nat) (v2 : Nat) (v3 : Nat) (v4 : Int32) (s0 : Nat) (s1 : Int32) (s2 : Int32) (s3 : Int32) (s4 : Int32) (s5 : Int32) (s6 : Int32) (s7 : Int32) (kk : Nat) (nn : Nat) (S : HS) : Prop := ob S s0 9 ∧ (kk ≤ rm_L_law.cells ∧ nn ≤ rm_L_law.slots ∧ (P_X9_lee s0 s1 s2 s3 s4 s5 s6 s7 (fun x3 S1 => Gr S S1 → (∀ x4 : Int32, x4 = v4 + (1 : Int32) → (vp_in x4 scL ∧ ∀ x6 : Int32, x6 = scx x4.toNatClampNeg → (∀ x7 : Int32, x7 = v4 + (2 : Int32) → (vp_in x7 scL ∧ ∀ x9 : Int32, x9 = scx x7.toNatClampNeg → (∀ x10 : Int32, x10 = v4 + (3 : Int32) → (vp_in x10 scL ∧ ∀ x12 : Int32, x12 = scx x10.toNatClampNeg → (∀ x13 : Int32, x13 = v4 + (4 : Int32) → (vp_in x13 scL ∧ ∀ x15 : Int32, x15 = scx x13.toNatClampNeg → (∀ x16 : Int32, x16 = v4 + (5 : Int32) → (vp_in x16 scL ∧ ∀ x18 : Int32, x18 = scx x16.toNatClampNeg → (∀ x19 : Int32, x19 = v4 + (6 : Int32) → (vp_in x19 scL ∧ ∀ x21 : Int32, x21 = scx x19.toNatClampNeg → (∀ x22 : Int32, x22 = v4 + (7 : Int32) → (vp_in x22 scL ∧ ∀ x24 : Int32, x24 = scx x22.toNatClampNeg → (((x24 = 0) → (P_L_law_1342 scL scx Q X23 v1 v2 v3 v4 v2 x6 x9 x12 x15 x18 x21 (0 : Int32) kk nn S1)) ∧ ((¬ x24 = 0) → (P_L_law_1342 scL scx Q X23 v1 v2 v3 v4 v2 x6 x9 x12 x15 x18 x21 (1 : Int32) kk nn S1)))))))))))))))))) S))
set_option maxRecDepth 20000 in
set_option maxHeartbeats 4000000 in
theorem T_L_law_1285 {X : CX} {Q : Int32 → HS → Prop} {scb scL : Nat} {scx : Nat → Int32} (C : Cx X cL_law RL 7 rm_L_law) (E : LE X scb scL scx Q) (ht : LD X) (hn : True) {X23 : Nat → Nat → Nat → Int32 → Nat → Nat → HS → Prop} (hX23 : ∀ (v1 : Nat) (v2 : Nat) (v3 : Nat) (v4 : Int32) (kk : Nat) (nn : Nat) (S : HS), X23 v1 v2 v3 v4 kk nn S → WS X 7 kk nn 23 [(0, .ref scb), (1, .ref v1), (2, .ref v2), (3, .ref v3), (4, .int v4)] [] S) {v1 : Nat} {v2 : Nat} {v3 : Nat} {v4 : Int32} {s0 : Nat} {s1 : Int32} {s2 : Int32} {s3 : Int32} {s4 : Int32} {s5 : Int32} {s6 : Int32} {s7 : Int32} {kk : Nat} {nn : Nat} {S : HS} (h : P_L_law_1285 scL scx Q X23 v1 v2 v3 v4 s0 s1 s2 s3 s4 s5 s6 s7 kk nn S) : WS X 7 kk nn 1285 [(0, .ref scb), (1, .ref v1), (2, .ref v2), (3, .ref v3), (4, .int v4)] [.int s7, .int s6, .int s5, .int s4, .int s3, .int s2, .int s1, .ref s0] S := by
  obtain ⟨o_s0, h⟩ := h
  obtain ⟨hk, hk2, h⟩ := h
  refine r_callVl0 (pc := 1285) C (rest := []) (a := s0) o_s0 [.int s1, .int s2, .int s3, .int s4, .int s5, .int s6, .int s7] yV_X9_lee g_797 (c_X9_lee h) dL_law_1285 rfl rfl (Nat.le_of_ble_eq_true rfl) ⟨by decide, by decide⟩ ⟨hk, hk2⟩ ⟨rfl, rfl⟩ (fun x3 S1 h g2 => ?_)
  have h := h g2
  have o_s0 := gr_ob g2 o_s0
  refine r_pop2 (pc := 1288) C dL_law_1288 rfl ?_
  refine r_aload_n (pc := 1289) C dL_law_1289 2 rfl ?_
  refine r_aload_n (pc := 1290) C dL_law_1290 0 rfl ?_
  refine r_iload (pc := 1291) C dL_law_1291 4 rfl ?_
  refine r_iconst (pc := 1293) C (v := (1 : Int32)) dL_law_1293 (by decide) ?_
  refine r_iadd (pc := 1294) C dL_law_1294 ?_
  refine r_topi (fun x4 ex4 => ?_)
  have h := h x4 ex4
  obtain ⟨i5, h⟩ := h
  refine r_scLd (pc := 1295) C E i5 dL_law_1295 ?_
  refine r_topi (fun x6 ex6 => ?_)
  have h := h x6 ex6
  refine r_aload_n (pc := 1296) C dL_law_1296 0 rfl ?_
  refine r_iload (pc := 1297) C dL_law_1297 4 rfl ?_
  refine r_iconst (pc := 1299) C (v := (2 : Int32)) dL_law_1299 (by decide) ?_
  refine r_iadd (pc := 1300) C dL_law_1300 ?_
  refine r_topi (fun x7 ex7 => ?_)
  have h := h x7 ex7
  obtain ⟨i8, h⟩ := h
  refine r_scLd (pc := 1301) C E i8 dL_law_1301 ?_
  refine r_topi (fun x9 ex9 => ?_)
  have h := h x9 ex9
  refine r_aload_n (pc := 1302) C dL_law_1302 0 rfl ?_
  refine r_iload (pc := 1303) C dL_law_1303 4 rfl ?_
  refine r_iconst (pc := 1305) C (v := (3 : Int32)) dL_law_1305 (by decide) ?_
  refine r_iadd (pc := 1306) C dL_law_1306 ?_
  refine r_topi (fun x10 ex10 => ?_)
  have h := h x10 ex10
  obtain ⟨i11, h⟩ := h
  refine r_scLd (pc := 1307) C E i11 dL_law_1307 ?_
  refine r_topi (fun x12 ex12 => ?_)
  have h := h x12 ex12
  refine r_aload_n (pc := 1308) C dL_law_1308 0 rfl ?_
  refine r_iload (pc := 1309) C dL_law_1309 4 rfl ?_
  refine r_iconst (pc := 1311) C (v := (4 : Int32)) dL_law_1311 (by decide) ?_
  refine r_iadd (pc := 1312) C dL_law_1312 ?_
  refine r_topi (fun x13 ex13 => ?_)
  have h := h x13 ex13
  obtain ⟨i14, h⟩ := h
  refine r_scLd (pc := 1313) C E i14 dL_law_1313 ?_
  refine r_topi (fun x15 ex15 => ?_)
  have h := h x15 ex15
  refine r_aload_n (pc := 1314) C dL_law_1314 0 rfl ?_
  refine r_iload (pc := 1315) C dL_law_1315 4 rfl ?_
  refine r_iconst (pc := 1317) C (v := (5 : Int32)) dL_law_1317 (by decide) ?_
  refine r_iadd (pc := 1318) C dL_law_1318 ?_
  refine r_topi (fun x16 ex16 => ?_)
  have h := h x16 ex16
  obtain ⟨i17, h⟩ := h
  refine r_scLd (pc := 1319) C E i17 dL_law_1319 ?_
  refine r_topi (fun x18 ex18 => ?_)
  have h := h x18 ex18
  refine r_aload_n (pc := 1320) C dL_law_1320 0 rfl ?_
  refine r_iload (pc := 1321) C dL_law_1321 4 rfl ?_
  refine r_bipush (pc := 1323) C (v := (6 : Int32)) dL_law_1323 (by decide) ?_
  refine r_iadd (pc := 1325) C dL_law_1325 ?_
  refine r_topi (fun x19 ex19 => ?_)
  have h := h x19 ex19
  obtain ⟨i20, h⟩ := h
  refine r_scLd (pc := 1326) C E i20 dL_law_1326 ?_
  refine r_topi (fun x21 ex21 => ?_)
  have h := h x21 ex21
  refine r_aload_n (pc := 1327) C dL_law_1327 0 rfl ?_
  refine r_iload (pc := 1328) C dL_law_1328 4 rfl ?_
  refine r_bipush (pc := 1330) C (v := (7 : Int32)) dL_law_1330 (by decide) ?_
  refine r_iadd (pc := 1332) C dL_law_1332 ?_
  refine r_topi (fun x22 ex22 => ?_)
  have h := h x22 ex22
  obtain ⟨i23, h⟩ := h
  refine r_scLd (pc := 1333) C E i23 dL_law_1333 ?_
  refine r_topi (fun x24 ex24 => ?_)
  have h := h x24 ex24
  refine r_if_eq (pc := 1334) C (tgt := 1341) dL_law_1334 (by decide) (fun c25 => ?_) (fun c25 => ?_)
  · have h := h.1 c25
    refine r_iconst (pc := 1341) C (v := (0 : Int32)) dL_law_1341 (by decide) ?_
    exact r_sub [0, 1, 2, 3, 4] rfl (T_L_law_1342 C E ht hn hX23 h)
  · have h := h.2 c25
    refine r_iconst (pc := 1337) C (v := (1 : Int32)) dL_law_1337 (by decide) ?_
    refine r_goto (pc := 1338) C (tgt := 1342) dL_law_1338 (by decide) ?_
    exact r_sub [0, 1, 2, 3, 4] rfl (T_L_law_1342 C E ht hn hX23 h)
def P_L_law_1232 (scL : Nat) (scx : Nat → Int32) (Q : Int32 → HS → Prop) (X23 : Nat → Nat → Nat → Int32 → Nat → Nat → HS → Prop) (v1 : Nat) (v2 : Nat) (v3 : Nat) (v4 : Int32) (kk : Nat) (nn : Nat) (S : HS) : Prop := ∀ x1 : Int32, x1 = v4 + (1 : Int32) → (vp_in x1 scL ∧ ∀ x3 : Int32, x3 = scx x1.toNatClampNeg → (∀ x4 : Int32, x4 = v4 + (2 : Int32) → (vp_in x4 scL ∧ ∀ x6 : Int32, x6 = scx x4.toNatClampNeg → (∀ x7 : Int32, x7 = v4 + (3 : Int32) → (vp_in x7 scL ∧ ∀ x9 : Int32, x9 = scx x7.toNatClampNeg → (∀ x10 : Int32, x10 = v4 + (4 : Int32) → (vp_in x10 scL ∧ ∀ x12 : Int32, x12 = scx x10.toNatClampNeg → (∀ x13 : Int32, x13 = v4 + (5 : Int32) → (vp_in x13 scL ∧ ∀ x15 : Int32, x15 = scx x13.toNatClampNeg → (∀ x16 : Int32, x16 = v4 + (6 : Int32) → (vp_in x16 scL ∧ ∀ x18 : Int32, x18 = scx x16.toNatClampNeg → (∀ x19 : Int32, x19 = v4 + (7 : Int32) → (vp_in x19 scL ∧ ∀ x21 : Int32, x21 = scx x19.toNatClampNeg → (((x21 = 0) → (P_L_law_1285 scL scx Q X23 v1 v2 v3 v4 v1 x3 x6 x9 x12 x15 x18 (0 : Int32) kk nn S)) ∧ ((¬ x21 = 0) → (P_L_law_1285 scL scx Q X23 v1 v2 v3 v4 v1 x3 x6 x9 x12 x15 x18 (1 : Int32) kk nn S))))))))))))))))
set_option maxRecDepth 20000 in
set_option maxHeartbeats 4000000 in
theorem T_L_law_1232 {X : CX} {Q : Int32 → HS → Prop} {scb scL : Nat} {scx : Nat → Int32} (C : Cx X cL_law RL 7 rm_L_law) (E : LE X scb scL scx Q) (ht : LD X) (hn : True) {X23 : Nat → Nat → Nat → Int32 → Nat → Nat → HS → Prop} (hX23 : ∀ (v1 : Nat) (v2 : Nat) (v3 : Nat) (v4 : Int32) (kk : Nat) (nn : Nat) (S : HS), X23 v1 v2 v3 v4 kk nn S → WS X 7 kk nn 23 [(0, .ref scb), (1, .ref v1), (2, .ref v2), (3, .ref v3), (4, .int v4)] [] S) {v1 : Nat} {v2 : Nat} {v3 : Nat} {v4 : Int32} {kk : Nat} {nn : Nat} {S : HS} (h : P_L_law_1232 scL scx Q X23 v1 v2 v3 v4 kk nn S) : WS X 7 kk nn 1232 [(0, .ref scb), (1, .ref v1), (2, .ref v2), (3, .ref v3), (4, .int v4)] [] S := by
  refine r_aload_n (pc := 1232) C dL_law_1232 1 rfl ?_
  refine r_aload_n (pc := 1233) C dL_law_1233 0 rfl ?_
  refine r_iload (pc := 1234) C dL_law_1234 4 rfl ?_
  refine r_iconst (pc := 1236) C (v := (1 : Int32)) dL_law_1236 (by decide) ?_
  refine r_iadd (pc := 1237) C dL_law_1237 ?_
  refine r_topi (fun x1 ex1 => ?_)
  have h := h x1 ex1
  obtain ⟨i2, h⟩ := h
  refine r_scLd (pc := 1238) C E i2 dL_law_1238 ?_
  refine r_topi (fun x3 ex3 => ?_)
  have h := h x3 ex3
  refine r_aload_n (pc := 1239) C dL_law_1239 0 rfl ?_
  refine r_iload (pc := 1240) C dL_law_1240 4 rfl ?_
  refine r_iconst (pc := 1242) C (v := (2 : Int32)) dL_law_1242 (by decide) ?_
  refine r_iadd (pc := 1243) C dL_law_1243 ?_
  refine r_topi (fun x4 ex4 => ?_)
  have h := h x4 ex4
  obtain ⟨i5, h⟩ := h
  refine r_scLd (pc := 1244) C E i5 dL_law_1244 ?_
  refine r_topi (fun x6 ex6 => ?_)
  have h := h x6 ex6
  refine r_aload_n (pc := 1245) C dL_law_1245 0 rfl ?_
  refine r_iload (pc := 1246) C dL_law_1246 4 rfl ?_
  refine r_iconst (pc := 1248) C (v := (3 : Int32)) dL_law_1248 (by decide) ?_
  refine r_iadd (pc := 1249) C dL_law_1249 ?_
  refine r_topi (fun x7 ex7 => ?_)
  have h := h x7 ex7
  obtain ⟨i8, h⟩ := h
  refine r_scLd (pc := 1250) C E i8 dL_law_1250 ?_
  refine r_topi (fun x9 ex9 => ?_)
  have h := h x9 ex9
  refine r_aload_n (pc := 1251) C dL_law_1251 0 rfl ?_
  refine r_iload (pc := 1252) C dL_law_1252 4 rfl ?_
  refine r_iconst (pc := 1254) C (v := (4 : Int32)) dL_law_1254 (by decide) ?_
  refine r_iadd (pc := 1255) C dL_law_1255 ?_
  refine r_topi (fun x10 ex10 => ?_)
  have h := h x10 ex10
  obtain ⟨i11, h⟩ := h
  refine r_scLd (pc := 1256) C E i11 dL_law_1256 ?_
  refine r_topi (fun x12 ex12 => ?_)
  have h := h x12 ex12
  refine r_aload_n (pc := 1257) C dL_law_1257 0 rfl ?_
  refine r_iload (pc := 1258) C dL_law_1258 4 rfl ?_
  refine r_iconst (pc := 1260) C (v := (5 : Int32)) dL_law_1260 (by decide) ?_
  refine r_iadd (pc := 1261) C dL_law_1261 ?_
  refine r_topi (fun x13 ex13 => ?_)
  have h := h x13 ex13
  obtain ⟨i14, h⟩ := h
  refine r_scLd (pc := 1262) C E i14 dL_law_1262 ?_
  refine r_topi (fun x15 ex15 => ?_)
  have h := h x15 ex15
  refine r_aload_n (pc := 1263) C dL_law_1263 0 rfl ?_
  refine r_iload (pc := 1264) C dL_law_1264 4 rfl ?_
  refine r_bipush (pc := 1266) C (v := (6 : Int32)) dL_law_1266 (by decide) ?_
  refine r_iadd (pc := 1268) C dL_law_1268 ?_
  refine r_topi (fun x16 ex16 => ?_)
  have h := h x16 ex16
  obtain ⟨i17, h⟩ := h
  refine r_scLd (pc := 1269) C E i17 dL_law_1269 ?_
  refine r_topi (fun x18 ex18 => ?_)
  have h := h x18 ex18
  refine r_aload_n (pc := 1270) C dL_law_1270 0 rfl ?_
  refine r_iload (pc := 1271) C dL_law_1271 4 rfl ?_
  refine r_bipush (pc := 1273) C (v := (7 : Int32)) dL_law_1273 (by decide) ?_
  refine r_iadd (pc := 1275) C dL_law_1275 ?_
  refine r_topi (fun x19 ex19 => ?_)
  have h := h x19 ex19
  obtain ⟨i20, h⟩ := h
  refine r_scLd (pc := 1276) C E i20 dL_law_1276 ?_
  refine r_topi (fun x21 ex21 => ?_)
  have h := h x21 ex21
  refine r_if_eq (pc := 1277) C (tgt := 1284) dL_law_1277 (by decide) (fun c22 => ?_) (fun c22 => ?_)
  · have h := h.1 c22
    refine r_iconst (pc := 1284) C (v := (0 : Int32)) dL_law_1284 (by decide) ?_
    exact r_sub [0, 1, 2, 3, 4] rfl (T_L_law_1285 C E ht hn hX23 h)
  · have h := h.2 c22
    refine r_iconst (pc := 1280) C (v := (1 : Int32)) dL_law_1280 (by decide) ?_
    refine r_goto (pc := 1281) C (tgt := 1285) dL_law_1281 (by decide) ?_
    exact r_sub [0, 1, 2, 3, 4] rfl (T_L_law_1285 C E ht hn hX23 h)
def P_L_law_1349 (scL : Nat) (scx : Nat → Int32) (Q : Int32 → HS → Prop) (X23 : Nat → Nat → Nat → Int32 → Nat → Nat → HS → Prop) (v1 : Nat) (v2 : Nat) (v3 : Nat) (v4 : Int32) (kk : Nat) (nn : Nat) (S : HS) : Prop := ∀ x1 : Int32, x1 = v4 + (1 : Int32) → (vp_in x1 scL ∧ ∀ x3 : Int32, x3 = scx x1.toNatClampNeg → (∀ x4 : Int32, x4 = v4 + (2 : Int32) → (vp_in x4 scL ∧ ∀ x6 : Int32, x6 = scx x4.toNatClampNeg → (∀ x7 : Int32, x7 = v4 + (3 : Int32) → (vp_in x7 scL ∧ ∀ x9 : Int32, x9 = scx x7.toNatClampNeg → (∀ x10 : Int32, x10 = v4 + (4 : Int32) → (vp_in x10 scL ∧ ∀ x12 : Int32, x12 = scx x10.toNatClampNeg → (∀ x13 : Int32, x13 = v4 + (5 : Int32) → (vp_in x13 scL ∧ ∀ x15 : Int32, x15 = scx x13.toNatClampNeg → (∀ x16 : Int32, x16 = v4 + (6 : Int32) → (vp_in x16 scL ∧ ∀ x18 : Int32, x18 = scx x16.toNatClampNeg → (ob S v1 9 ∧ (kk ≤ rm_L_law.cells ∧ nn ≤ rm_L_law.slots ∧ (P_X9_first v1 x3 x6 x9 x12 x15 x18 (fun x21 S19 => Gr S S19 → (∀ x22 : Int32, x22 = v4 + (1 : Int32) → (vp_in x22 scL ∧ ∀ x24 : Int32, x24 = scx x22.toNatClampNeg → (∀ x25 : Int32, x25 = v4 + (2 : Int32) → (vp_in x25 scL ∧ ∀ x27 : Int32, x27 = scx x25.toNatClampNeg → (∀ x28 : Int32, x28 = v4 + (3 : Int32) → (vp_in x28 scL ∧ ∀ x30 : Int32, x30 = scx x28.toNatClampNeg → (∀ x31 : Int32, x31 = v4 + (4 : Int32) → (vp_in x31 scL ∧ ∀ x33 : Int32, x33 = scx x31.toNatClampNeg → (∀ x34 : Int32, x34 = v4 + (5 : Int32) → (vp_in x34 scL ∧ ∀ x36 : Int32, x36 = scx x34.toNatClampNeg → (∀ x37 : Int32, x37 = v4 + (6 : Int32) → (vp_in x37 scL ∧ ∀ x39 : Int32, x39 = scx x37.toNatClampNeg → (ob S19 v2 11 ∧ (kk ≤ rm_L_law.cells ∧ nn ≤ rm_L_law.slots ∧ (P_X11_first v2 x24 x27 x30 x33 x36 x39 (fun x42 S40 => Gr S19 S40 → (P_L_law_2341 scL scx Q X23 v1 v2 v3 v4 kk nn S40)) S19)))))))))))))))) S))))))))))))))
set_option maxRecDepth 20000 in
set_option maxHeartbeats 4000000 in
theorem T_L_law_1349 {X : CX} {Q : Int32 → HS → Prop} {scb scL : Nat} {scx : Nat → Int32} (C : Cx X cL_law RL 7 rm_L_law) (E : LE X scb scL scx Q) (ht : LD X) (hn : True) {X23 : Nat → Nat → Nat → Int32 → Nat → Nat → HS → Prop} (hX23 : ∀ (v1 : Nat) (v2 : Nat) (v3 : Nat) (v4 : Int32) (kk : Nat) (nn : Nat) (S : HS), X23 v1 v2 v3 v4 kk nn S → WS X 7 kk nn 23 [(0, .ref scb), (1, .ref v1), (2, .ref v2), (3, .ref v3), (4, .int v4)] [] S) {v1 : Nat} {v2 : Nat} {v3 : Nat} {v4 : Int32} {kk : Nat} {nn : Nat} {S : HS} (h : P_L_law_1349 scL scx Q X23 v1 v2 v3 v4 kk nn S) : WS X 7 kk nn 1349 [(0, .ref scb), (1, .ref v1), (2, .ref v2), (3, .ref v3), (4, .int v4)] [] S := by
  refine r_aload_n (pc := 1349) C dL_law_1349 1 rfl ?_
  refine r_aload_n (pc := 1350) C dL_law_1350 0 rfl ?_
  refine r_iload (pc := 1351) C dL_law_1351 4 rfl ?_
  refine r_iconst (pc := 1353) C (v := (1 : Int32)) dL_law_1353 (by decide) ?_
  refine r_iadd (pc := 1354) C dL_law_1354 ?_
  refine r_topi (fun x1 ex1 => ?_)
  have h := h x1 ex1
  obtain ⟨i2, h⟩ := h
  refine r_scLd (pc := 1355) C E i2 dL_law_1355 ?_
  refine r_topi (fun x3 ex3 => ?_)
  have h := h x3 ex3
  refine r_aload_n (pc := 1356) C dL_law_1356 0 rfl ?_
  refine r_iload (pc := 1357) C dL_law_1357 4 rfl ?_
  refine r_iconst (pc := 1359) C (v := (2 : Int32)) dL_law_1359 (by decide) ?_
  refine r_iadd (pc := 1360) C dL_law_1360 ?_
  refine r_topi (fun x4 ex4 => ?_)
  have h := h x4 ex4
  obtain ⟨i5, h⟩ := h
  refine r_scLd (pc := 1361) C E i5 dL_law_1361 ?_
  refine r_topi (fun x6 ex6 => ?_)
  have h := h x6 ex6
  refine r_aload_n (pc := 1362) C dL_law_1362 0 rfl ?_
  refine r_iload (pc := 1363) C dL_law_1363 4 rfl ?_
  refine r_iconst (pc := 1365) C (v := (3 : Int32)) dL_law_1365 (by decide) ?_
  refine r_iadd (pc := 1366) C dL_law_1366 ?_
  refine r_topi (fun x7 ex7 => ?_)
  have h := h x7 ex7
  obtain ⟨i8, h⟩ := h
  refine r_scLd (pc := 1367) C E i8 dL_law_1367 ?_
  refine r_topi (fun x9 ex9 => ?_)
  have h := h x9 ex9
  refine r_aload_n (pc := 1368) C dL_law_1368 0 rfl ?_
  refine r_iload (pc := 1369) C dL_law_1369 4 rfl ?_
  refine r_iconst (pc := 1371) C (v := (4 : Int32)) dL_law_1371 (by decide) ?_
  refine r_iadd (pc := 1372) C dL_law_1372 ?_
  refine r_topi (fun x10 ex10 => ?_)
  have h := h x10 ex10
  obtain ⟨i11, h⟩ := h
  refine r_scLd (pc := 1373) C E i11 dL_law_1373 ?_
  refine r_topi (fun x12 ex12 => ?_)
  have h := h x12 ex12
  refine r_aload_n (pc := 1374) C dL_law_1374 0 rfl ?_
  refine r_iload (pc := 1375) C dL_law_1375 4 rfl ?_
  refine r_iconst (pc := 1377) C (v := (5 : Int32)) dL_law_1377 (by decide) ?_
  refine r_iadd (pc := 1378) C dL_law_1378 ?_
  refine r_topi (fun x13 ex13 => ?_)
  have h := h x13 ex13
  obtain ⟨i14, h⟩ := h
  refine r_scLd (pc := 1379) C E i14 dL_law_1379 ?_
  refine r_topi (fun x15 ex15 => ?_)
  have h := h x15 ex15
  refine r_aload_n (pc := 1380) C dL_law_1380 0 rfl ?_
  refine r_iload (pc := 1381) C dL_law_1381 4 rfl ?_
  refine r_bipush (pc := 1383) C (v := (6 : Int32)) dL_law_1383 (by decide) ?_
  refine r_iadd (pc := 1385) C dL_law_1385 ?_
  refine r_topi (fun x16 ex16 => ?_)
  have h := h x16 ex16
  obtain ⟨i17, h⟩ := h
  refine r_scLd (pc := 1386) C E i17 dL_law_1386 ?_
  refine r_topi (fun x18 ex18 => ?_)
  have h := h x18 ex18
  obtain ⟨o_v1, h⟩ := h
  obtain ⟨hk, hk2, h⟩ := h
  refine r_callVi0 (pc := 1387) C (rest := []) (a := v1) o_v1 [.int x3, .int x6, .int x9, .int x12, .int x15, .int x18] yV_X9_first g_809 (c_X9_first h) dL_law_1387 rfl rfl (Nat.le_of_ble_eq_true rfl) ⟨by decide, by decide⟩ ⟨hk, hk2⟩ ⟨rfl, rfl⟩ (fun x21 S19 h g20 => ?_)
  have h := h g20
  have o_v1 := gr_ob g20 o_v1
  refine r_pop (pc := 1390) C dL_law_1390 rfl ?_
  refine r_aload_n (pc := 1391) C dL_law_1391 2 rfl ?_
  refine r_aload_n (pc := 1392) C dL_law_1392 0 rfl ?_
  refine r_iload (pc := 1393) C dL_law_1393 4 rfl ?_
  refine r_iconst (pc := 1395) C (v := (1 : Int32)) dL_law_1395 (by decide) ?_
  refine r_iadd (pc := 1396) C dL_law_1396 ?_
  refine r_topi (fun x22 ex22 => ?_)
  have h := h x22 ex22
  obtain ⟨i23, h⟩ := h
  refine r_scLd (pc := 1397) C E i23 dL_law_1397 ?_
  refine r_topi (fun x24 ex24 => ?_)
  have h := h x24 ex24
  refine r_aload_n (pc := 1398) C dL_law_1398 0 rfl ?_
  refine r_iload (pc := 1399) C dL_law_1399 4 rfl ?_
  refine r_iconst (pc := 1401) C (v := (2 : Int32)) dL_law_1401 (by decide) ?_
  refine r_iadd (pc := 1402) C dL_law_1402 ?_
  refine r_topi (fun x25 ex25 => ?_)
  have h := h x25 ex25
  obtain ⟨i26, h⟩ := h
  refine r_scLd (pc := 1403) C E i26 dL_law_1403 ?_
  refine r_topi (fun x27 ex27 => ?_)
  have h := h x27 ex27
  refine r_aload_n (pc := 1404) C dL_law_1404 0 rfl ?_
  refine r_iload (pc := 1405) C dL_law_1405 4 rfl ?_
  refine r_iconst (pc := 1407) C (v := (3 : Int32)) dL_law_1407 (by decide) ?_
  refine r_iadd (pc := 1408) C dL_law_1408 ?_
  refine r_topi (fun x28 ex28 => ?_)
  have h := h x28 ex28
  obtain ⟨i29, h⟩ := h
  refine r_scLd (pc := 1409) C E i29 dL_law_1409 ?_
  refine r_topi (fun x30 ex30 => ?_)
  have h := h x30 ex30
  refine r_aload_n (pc := 1410) C dL_law_1410 0 rfl ?_
  refine r_iload (pc := 1411) C dL_law_1411 4 rfl ?_
  refine r_iconst (pc := 1413) C (v := (4 : Int32)) dL_law_1413 (by decide) ?_
  refine r_iadd (pc := 1414) C dL_law_1414 ?_
  refine r_topi (fun x31 ex31 => ?_)
  have h := h x31 ex31
  obtain ⟨i32, h⟩ := h
  refine r_scLd (pc := 1415) C E i32 dL_law_1415 ?_
  refine r_topi (fun x33 ex33 => ?_)
  have h := h x33 ex33
  refine r_aload_n (pc := 1416) C dL_law_1416 0 rfl ?_
  refine r_iload (pc := 1417) C dL_law_1417 4 rfl ?_
  refine r_iconst (pc := 1419) C (v := (5 : Int32)) dL_law_1419 (by decide) ?_
  refine r_iadd (pc := 1420) C dL_law_1420 ?_
  refine r_topi (fun x34 ex34 => ?_)
  have h := h x34 ex34
  obtain ⟨i35, h⟩ := h
  refine r_scLd (pc := 1421) C E i35 dL_law_1421 ?_
  refine r_topi (fun x36 ex36 => ?_)
  have h := h x36 ex36
  refine r_aload_n (pc := 1422) C dL_law_1422 0 rfl ?_
  refine r_iload (pc := 1423) C dL_law_1423 4 rfl ?_
  refine r_bipush (pc := 1425) C (v := (6 : Int32)) dL_law_1425 (by decide) ?_
  refine r_iadd (pc := 1427) C dL_law_1427 ?_
  refine r_topi (fun x37 ex37 => ?_)
  have h := h x37 ex37
  obtain ⟨i38, h⟩ := h
  refine r_scLd (pc := 1428) C E i38 dL_law_1428 ?_
  refine r_topi (fun x39 ex39 => ?_)
  have h := h x39 ex39
  obtain ⟨o_v2, h⟩ := h
  obtain ⟨hk, hk2, h⟩ := h
  refine r_callVi0 (pc := 1429) C (rest := []) (a := v2) o_v2 [.int x24, .int x27, .int x30, .int x33, .int x36, .int x39] yV_X11_first g_1667 (c_X11_first h) dL_law_1429 rfl rfl (Nat.le_of_ble_eq_true rfl) ⟨by decide, by decide⟩ ⟨hk, hk2⟩ ⟨rfl, rfl⟩ (fun x42 S40 h g41 => ?_)
  have h := h g41
  have o_v1 := gr_ob g41 o_v1
  have o_v2 := gr_ob g41 o_v2
  refine r_pop (pc := 1432) C dL_law_1432 rfl ?_
  refine r_goto (pc := 1433) C (tgt := 2341) dL_law_1433 (by decide) ?_
  exact r_sub [0, 1, 2, 3, 4] rfl (T_L_law_2341 C E ht hn hX23 h)
def P_L_law_1532 (scL : Nat) (scx : Nat → Int32) (Q : Int32 → HS → Prop) (X23 : Nat → Nat → Nat → Int32 → Nat → Nat → HS → Prop) (v1 : Nat) (v2 : Nat) (v3 : Nat) (v4 : Int32) (s0 : Nat) (s1 : Int32) (s2 : Int32) (s3 : Int32) (s4 : Int32) (s5 : Int32) (s6 : Int32) (kk : Nat) (nn : Nat) (S : HS) : Prop := ob S s0 11 ∧ (kk ≤ rm_L_law.cells ∧ nn ≤ rm_L_law.slots ∧ (P_X11_least s0 s1 s2 s3 s4 s5 s6 (fun x3 S1 => Gr S S1 → (P_L_law_2341 scL scx Q X23 v1 v2 v3 v4 kk nn S1)) S))
set_option maxRecDepth 20000 in
set_option maxHeartbeats 4000000 in
theorem T_L_law_1532 {X : CX} {Q : Int32 → HS → Prop} {scb scL : Nat} {scx : Nat → Int32} (C : Cx X cL_law RL 7 rm_L_law) (E : LE X scb scL scx Q) (ht : LD X) (hn : True) {X23 : Nat → Nat → Nat → Int32 → Nat → Nat → HS → Prop} (hX23 : ∀ (v1 : Nat) (v2 : Nat) (v3 : Nat) (v4 : Int32) (kk : Nat) (nn : Nat) (S : HS), X23 v1 v2 v3 v4 kk nn S → WS X 7 kk nn 23 [(0, .ref scb), (1, .ref v1), (2, .ref v2), (3, .ref v3), (4, .int v4)] [] S) {v1 : Nat} {v2 : Nat} {v3 : Nat} {v4 : Int32} {s0 : Nat} {s1 : Int32} {s2 : Int32} {s3 : Int32} {s4 : Int32} {s5 : Int32} {s6 : Int32} {kk : Nat} {nn : Nat} {S : HS} (h : P_L_law_1532 scL scx Q X23 v1 v2 v3 v4 s0 s1 s2 s3 s4 s5 s6 kk nn S) : WS X 7 kk nn 1532 [(0, .ref scb), (1, .ref v1), (2, .ref v2), (3, .ref v3), (4, .int v4)] [.int s6, .int s5, .int s4, .int s3, .int s2, .int s1, .ref s0] S := by
  obtain ⟨o_s0, h⟩ := h
  obtain ⟨hk, hk2, h⟩ := h
  refine r_callVl0 (pc := 1532) C (rest := []) (a := s0) o_s0 [.int s1, .int s2, .int s3, .int s4, .int s5, .int s6] yV_X11_least g_1671 (c_X11_least h) dL_law_1532 rfl rfl (Nat.le_of_ble_eq_true rfl) ⟨by decide, by decide⟩ ⟨hk, hk2⟩ ⟨rfl, rfl⟩ (fun x3 S1 h g2 => ?_)
  have h := h g2
  have o_s0 := gr_ob g2 o_s0
  refine r_pop2 (pc := 1535) C dL_law_1535 rfl ?_
  refine r_goto (pc := 1536) C (tgt := 2341) dL_law_1536 (by decide) ?_
  exact r_sub [0, 1, 2, 3, 4] rfl (T_L_law_2341 C E ht hn hX23 h)
def P_L_law_1482 (scL : Nat) (scx : Nat → Int32) (Q : Int32 → HS → Prop) (X23 : Nat → Nat → Nat → Int32 → Nat → Nat → HS → Prop) (v1 : Nat) (v2 : Nat) (v3 : Nat) (v4 : Int32) (s0 : Nat) (s1 : Int32) (s2 : Int32) (s3 : Int32) (s4 : Int32) (s5 : Int32) (s6 : Int32) (kk : Nat) (nn : Nat) (S : HS) : Prop := ob S s0 9 ∧ (kk + 8 ≤ rm_L_law.cells ∧ nn + 7937 ≤ rm_L_law.slots ∧ (P_X9_least s0 s1 s2 s3 s4 s5 s6 (fun x3 S1 => Gr S S1 → (∀ x4 : Int32, x4 = v4 + (1 : Int32) → (vp_in x4 scL ∧ ∀ x6 : Int32, x6 = scx x4.toNatClampNeg → (∀ x7 : Int32, x7 = v4 + (2 : Int32) → (vp_in x7 scL ∧ ∀ x9 : Int32, x9 = scx x7.toNatClampNeg → (∀ x10 : Int32, x10 = v4 + (3 : Int32) → (vp_in x10 scL ∧ ∀ x12 : Int32, x12 = scx x10.toNatClampNeg → (∀ x13 : Int32, x13 = v4 + (4 : Int32) → (vp_in x13 scL ∧ ∀ x15 : Int32, x15 = scx x13.toNatClampNeg → (∀ x16 : Int32, x16 = v4 + (5 : Int32) → (vp_in x16 scL ∧ ∀ x18 : Int32, x18 = scx x16.toNatClampNeg → (∀ x19 : Int32, x19 = v4 + (6 : Int32) → (vp_in x19 scL ∧ ∀ x21 : Int32, x21 = scx x19.toNatClampNeg → (((x21 = 0) → (P_L_law_1532 scL scx Q X23 v1 v2 v3 v4 v2 x6 x9 x12 x15 x18 (0 : Int32) (kk + 8) (nn + 7937) S1)) ∧ ((¬ x21 = 0) → (P_L_law_1532 scL scx Q X23 v1 v2 v3 v4 v2 x6 x9 x12 x15 x18 (1 : Int32) (kk + 8) (nn + 7937) S1)))))))))))))))) S))
set_option maxRecDepth 20000 in
set_option maxHeartbeats 4000000 in
theorem T_L_law_1482 {X : CX} {Q : Int32 → HS → Prop} {scb scL : Nat} {scx : Nat → Int32} (C : Cx X cL_law RL 7 rm_L_law) (E : LE X scb scL scx Q) (ht : LD X) (hn : True) {X23 : Nat → Nat → Nat → Int32 → Nat → Nat → HS → Prop} (hX23 : ∀ (v1 : Nat) (v2 : Nat) (v3 : Nat) (v4 : Int32) (kk : Nat) (nn : Nat) (S : HS), X23 v1 v2 v3 v4 kk nn S → WS X 7 kk nn 23 [(0, .ref scb), (1, .ref v1), (2, .ref v2), (3, .ref v3), (4, .int v4)] [] S) {v1 : Nat} {v2 : Nat} {v3 : Nat} {v4 : Int32} {s0 : Nat} {s1 : Int32} {s2 : Int32} {s3 : Int32} {s4 : Int32} {s5 : Int32} {s6 : Int32} {kk : Nat} {nn : Nat} {S : HS} (h : P_L_law_1482 scL scx Q X23 v1 v2 v3 v4 s0 s1 s2 s3 s4 s5 s6 kk nn S) : WS X 7 kk nn 1482 [(0, .ref scb), (1, .ref v1), (2, .ref v2), (3, .ref v3), (4, .int v4)] [.int s6, .int s5, .int s4, .int s3, .int s2, .int s1, .ref s0] S := by
  obtain ⟨o_s0, h⟩ := h
  obtain ⟨hk, hk2, h⟩ := h
  refine r_callVl (pc := 1482) C (rest := []) (a := s0) o_s0 [.int s1, .int s2, .int s3, .int s4, .int s5, .int s6] yV_X9_least g_813 (c_X9_least h) dL_law_1482 rfl rfl (Nat.le_of_ble_eq_true rfl) ⟨by decide, by decide⟩ ⟨hk, hk2⟩ (fun x3 S1 h g2 => ?_)
  have h := h g2
  have o_s0 := gr_ob g2 o_s0
  refine r_pop2 (pc := 1485) C dL_law_1485 rfl ?_
  refine r_aload_n (pc := 1486) C dL_law_1486 2 rfl ?_
  refine r_aload_n (pc := 1487) C dL_law_1487 0 rfl ?_
  refine r_iload (pc := 1488) C dL_law_1488 4 rfl ?_
  refine r_iconst (pc := 1490) C (v := (1 : Int32)) dL_law_1490 (by decide) ?_
  refine r_iadd (pc := 1491) C dL_law_1491 ?_
  refine r_topi (fun x4 ex4 => ?_)
  have h := h x4 ex4
  obtain ⟨i5, h⟩ := h
  refine r_scLd (pc := 1492) C E i5 dL_law_1492 ?_
  refine r_topi (fun x6 ex6 => ?_)
  have h := h x6 ex6
  refine r_aload_n (pc := 1493) C dL_law_1493 0 rfl ?_
  refine r_iload (pc := 1494) C dL_law_1494 4 rfl ?_
  refine r_iconst (pc := 1496) C (v := (2 : Int32)) dL_law_1496 (by decide) ?_
  refine r_iadd (pc := 1497) C dL_law_1497 ?_
  refine r_topi (fun x7 ex7 => ?_)
  have h := h x7 ex7
  obtain ⟨i8, h⟩ := h
  refine r_scLd (pc := 1498) C E i8 dL_law_1498 ?_
  refine r_topi (fun x9 ex9 => ?_)
  have h := h x9 ex9
  refine r_aload_n (pc := 1499) C dL_law_1499 0 rfl ?_
  refine r_iload (pc := 1500) C dL_law_1500 4 rfl ?_
  refine r_iconst (pc := 1502) C (v := (3 : Int32)) dL_law_1502 (by decide) ?_
  refine r_iadd (pc := 1503) C dL_law_1503 ?_
  refine r_topi (fun x10 ex10 => ?_)
  have h := h x10 ex10
  obtain ⟨i11, h⟩ := h
  refine r_scLd (pc := 1504) C E i11 dL_law_1504 ?_
  refine r_topi (fun x12 ex12 => ?_)
  have h := h x12 ex12
  refine r_aload_n (pc := 1505) C dL_law_1505 0 rfl ?_
  refine r_iload (pc := 1506) C dL_law_1506 4 rfl ?_
  refine r_iconst (pc := 1508) C (v := (4 : Int32)) dL_law_1508 (by decide) ?_
  refine r_iadd (pc := 1509) C dL_law_1509 ?_
  refine r_topi (fun x13 ex13 => ?_)
  have h := h x13 ex13
  obtain ⟨i14, h⟩ := h
  refine r_scLd (pc := 1510) C E i14 dL_law_1510 ?_
  refine r_topi (fun x15 ex15 => ?_)
  have h := h x15 ex15
  refine r_aload_n (pc := 1511) C dL_law_1511 0 rfl ?_
  refine r_iload (pc := 1512) C dL_law_1512 4 rfl ?_
  refine r_iconst (pc := 1514) C (v := (5 : Int32)) dL_law_1514 (by decide) ?_
  refine r_iadd (pc := 1515) C dL_law_1515 ?_
  refine r_topi (fun x16 ex16 => ?_)
  have h := h x16 ex16
  obtain ⟨i17, h⟩ := h
  refine r_scLd (pc := 1516) C E i17 dL_law_1516 ?_
  refine r_topi (fun x18 ex18 => ?_)
  have h := h x18 ex18
  refine r_aload_n (pc := 1517) C dL_law_1517 0 rfl ?_
  refine r_iload (pc := 1518) C dL_law_1518 4 rfl ?_
  refine r_bipush (pc := 1520) C (v := (6 : Int32)) dL_law_1520 (by decide) ?_
  refine r_iadd (pc := 1522) C dL_law_1522 ?_
  refine r_topi (fun x19 ex19 => ?_)
  have h := h x19 ex19
  obtain ⟨i20, h⟩ := h
  refine r_scLd (pc := 1523) C E i20 dL_law_1523 ?_
  refine r_topi (fun x21 ex21 => ?_)
  have h := h x21 ex21
  refine r_if_eq (pc := 1524) C (tgt := 1531) dL_law_1524 (by decide) (fun c22 => ?_) (fun c22 => ?_)
  · have h := h.1 c22
    refine r_iconst (pc := 1531) C (v := (0 : Int32)) dL_law_1531 (by decide) ?_
    exact r_sub [0, 1, 2, 3, 4] rfl (T_L_law_1532 C E ht hn hX23 h)
  · have h := h.2 c22
    refine r_iconst (pc := 1527) C (v := (1 : Int32)) dL_law_1527 (by decide) ?_
    refine r_goto (pc := 1528) C (tgt := 1532) dL_law_1528 (by decide) ?_
    exact r_sub [0, 1, 2, 3, 4] rfl (T_L_law_1532 C E ht hn hX23 h)
def P_L_law_1436 (scL : Nat) (scx : Nat → Int32) (Q : Int32 → HS → Prop) (X23 : Nat → Nat → Nat → Int32 → Nat → Nat → HS → Prop) (v1 : Nat) (v2 : Nat) (v3 : Nat) (v4 : Int32) (kk : Nat) (nn : Nat) (S : HS) : Prop := ∀ x1 : Int32, x1 = v4 + (1 : Int32) → (vp_in x1 scL ∧ ∀ x3 : Int32, x3 = scx x1.toNatClampNeg → (∀ x4 : Int32, x4 = v4 + (2 : Int32) → (vp_in x4 scL ∧ ∀ x6 : Int32, x6 = scx x4.toNatClampNeg → (∀ x7 : Int32, x7 = v4 + (3 : Int32) → (vp_in x7 scL ∧ ∀ x9 : Int32, x9 = scx x7.toNatClampNeg → (∀ x10 : Int32, x10 = v4 + (4 : Int32) → (vp_in x10 scL ∧ ∀ x12 : Int32, x12 = scx x10.toNatClampNeg → (∀ x13 : Int32, x13 = v4 + (5 : Int32) → (vp_in x13 scL ∧ ∀ x15 : Int32, x15 = scx x13.toNatClampNeg → (∀ x16 : Int32, x16 = v4 + (6 : Int32) → (vp_in x16 scL ∧ ∀ x18 : Int32, x18 = scx x16.toNatClampNeg → (((x18 = 0) → (P_L_law_1482 scL scx Q X23 v1 v2 v3 v4 v1 x3 x6 x9 x12 x15 (0 : Int32) kk nn S)) ∧ ((¬ x18 = 0) → (P_L_law_1482 scL scx Q X23 v1 v2 v3 v4 v1 x3 x6 x9 x12 x15 (1 : Int32) kk nn S))))))))))))))
set_option maxRecDepth 20000 in
set_option maxHeartbeats 4000000 in
theorem T_L_law_1436 {X : CX} {Q : Int32 → HS → Prop} {scb scL : Nat} {scx : Nat → Int32} (C : Cx X cL_law RL 7 rm_L_law) (E : LE X scb scL scx Q) (ht : LD X) (hn : True) {X23 : Nat → Nat → Nat → Int32 → Nat → Nat → HS → Prop} (hX23 : ∀ (v1 : Nat) (v2 : Nat) (v3 : Nat) (v4 : Int32) (kk : Nat) (nn : Nat) (S : HS), X23 v1 v2 v3 v4 kk nn S → WS X 7 kk nn 23 [(0, .ref scb), (1, .ref v1), (2, .ref v2), (3, .ref v3), (4, .int v4)] [] S) {v1 : Nat} {v2 : Nat} {v3 : Nat} {v4 : Int32} {kk : Nat} {nn : Nat} {S : HS} (h : P_L_law_1436 scL scx Q X23 v1 v2 v3 v4 kk nn S) : WS X 7 kk nn 1436 [(0, .ref scb), (1, .ref v1), (2, .ref v2), (3, .ref v3), (4, .int v4)] [] S := by
  refine r_aload_n (pc := 1436) C dL_law_1436 1 rfl ?_
  refine r_aload_n (pc := 1437) C dL_law_1437 0 rfl ?_
  refine r_iload (pc := 1438) C dL_law_1438 4 rfl ?_
  refine r_iconst (pc := 1440) C (v := (1 : Int32)) dL_law_1440 (by decide) ?_
  refine r_iadd (pc := 1441) C dL_law_1441 ?_
  refine r_topi (fun x1 ex1 => ?_)
  have h := h x1 ex1
  obtain ⟨i2, h⟩ := h
  refine r_scLd (pc := 1442) C E i2 dL_law_1442 ?_
  refine r_topi (fun x3 ex3 => ?_)
  have h := h x3 ex3
  refine r_aload_n (pc := 1443) C dL_law_1443 0 rfl ?_
  refine r_iload (pc := 1444) C dL_law_1444 4 rfl ?_
  refine r_iconst (pc := 1446) C (v := (2 : Int32)) dL_law_1446 (by decide) ?_
  refine r_iadd (pc := 1447) C dL_law_1447 ?_
  refine r_topi (fun x4 ex4 => ?_)
  have h := h x4 ex4
  obtain ⟨i5, h⟩ := h
  refine r_scLd (pc := 1448) C E i5 dL_law_1448 ?_
  refine r_topi (fun x6 ex6 => ?_)
  have h := h x6 ex6
  refine r_aload_n (pc := 1449) C dL_law_1449 0 rfl ?_
  refine r_iload (pc := 1450) C dL_law_1450 4 rfl ?_
  refine r_iconst (pc := 1452) C (v := (3 : Int32)) dL_law_1452 (by decide) ?_
  refine r_iadd (pc := 1453) C dL_law_1453 ?_
  refine r_topi (fun x7 ex7 => ?_)
  have h := h x7 ex7
  obtain ⟨i8, h⟩ := h
  refine r_scLd (pc := 1454) C E i8 dL_law_1454 ?_
  refine r_topi (fun x9 ex9 => ?_)
  have h := h x9 ex9
  refine r_aload_n (pc := 1455) C dL_law_1455 0 rfl ?_
  refine r_iload (pc := 1456) C dL_law_1456 4 rfl ?_
  refine r_iconst (pc := 1458) C (v := (4 : Int32)) dL_law_1458 (by decide) ?_
  refine r_iadd (pc := 1459) C dL_law_1459 ?_
  refine r_topi (fun x10 ex10 => ?_)
  have h := h x10 ex10
  obtain ⟨i11, h⟩ := h
  refine r_scLd (pc := 1460) C E i11 dL_law_1460 ?_
  refine r_topi (fun x12 ex12 => ?_)
  have h := h x12 ex12
  refine r_aload_n (pc := 1461) C dL_law_1461 0 rfl ?_
  refine r_iload (pc := 1462) C dL_law_1462 4 rfl ?_
  refine r_iconst (pc := 1464) C (v := (5 : Int32)) dL_law_1464 (by decide) ?_
  refine r_iadd (pc := 1465) C dL_law_1465 ?_
  refine r_topi (fun x13 ex13 => ?_)
  have h := h x13 ex13
  obtain ⟨i14, h⟩ := h
  refine r_scLd (pc := 1466) C E i14 dL_law_1466 ?_
  refine r_topi (fun x15 ex15 => ?_)
  have h := h x15 ex15
  refine r_aload_n (pc := 1467) C dL_law_1467 0 rfl ?_
  refine r_iload (pc := 1468) C dL_law_1468 4 rfl ?_
  refine r_bipush (pc := 1470) C (v := (6 : Int32)) dL_law_1470 (by decide) ?_
  refine r_iadd (pc := 1472) C dL_law_1472 ?_
  refine r_topi (fun x16 ex16 => ?_)
  have h := h x16 ex16
  obtain ⟨i17, h⟩ := h
  refine r_scLd (pc := 1473) C E i17 dL_law_1473 ?_
  refine r_topi (fun x18 ex18 => ?_)
  have h := h x18 ex18
  refine r_if_eq (pc := 1474) C (tgt := 1481) dL_law_1474 (by decide) (fun c19 => ?_) (fun c19 => ?_)
  · have h := h.1 c19
    refine r_iconst (pc := 1481) C (v := (0 : Int32)) dL_law_1481 (by decide) ?_
    exact r_sub [0, 1, 2, 3, 4] rfl (T_L_law_1482 C E ht hn hX23 h)
  · have h := h.2 c19
    refine r_iconst (pc := 1477) C (v := (1 : Int32)) dL_law_1477 (by decide) ?_
    refine r_goto (pc := 1478) C (tgt := 1482) dL_law_1478 (by decide) ?_
    exact r_sub [0, 1, 2, 3, 4] rfl (T_L_law_1482 C E ht hn hX23 h)
def P_L_law_1539 (scL : Nat) (scx : Nat → Int32) (Q : Int32 → HS → Prop) (X23 : Nat → Nat → Nat → Int32 → Nat → Nat → HS → Prop) (v1 : Nat) (v2 : Nat) (v3 : Nat) (v4 : Int32) (kk : Nat) (nn : Nat) (S : HS) : Prop := ∀ x1 : Int32, x1 = v4 + (1 : Int32) → (vp_in x1 scL ∧ ∀ x3 : Int32, x3 = scx x1.toNatClampNeg → (∀ x4 : Int32, x4 = v4 + (2 : Int32) → (vp_in x4 scL ∧ ∀ x6 : Int32, x6 = scx x4.toNatClampNeg → (∀ x7 : Int32, x7 = v4 + (3 : Int32) → (vp_in x7 scL ∧ ∀ x9 : Int32, x9 = scx x7.toNatClampNeg → (∀ x10 : Int32, x10 = v4 + (4 : Int32) → (vp_in x10 scL ∧ ∀ x12 : Int32, x12 = scx x10.toNatClampNeg → (∀ x13 : Int32, x13 = v4 + (5 : Int32) → (vp_in x13 scL ∧ ∀ x15 : Int32, x15 = scx x13.toNatClampNeg → (ob S v1 9 ∧ (kk + 8 ≤ rm_L_law.cells ∧ nn + 7937 ≤ rm_L_law.slots ∧ (P_X9_there v1 x3 x6 x9 x12 x15 (fun x18 S16 => Gr S S16 → (∀ x19 : Int32, x19 = v4 + (1 : Int32) → (vp_in x19 scL ∧ ∀ x21 : Int32, x21 = scx x19.toNatClampNeg → (∀ x22 : Int32, x22 = v4 + (2 : Int32) → (vp_in x22 scL ∧ ∀ x24 : Int32, x24 = scx x22.toNatClampNeg → (∀ x25 : Int32, x25 = v4 + (3 : Int32) → (vp_in x25 scL ∧ ∀ x27 : Int32, x27 = scx x25.toNatClampNeg → (∀ x28 : Int32, x28 = v4 + (4 : Int32) → (vp_in x28 scL ∧ ∀ x30 : Int32, x30 = scx x28.toNatClampNeg → (∀ x31 : Int32, x31 = v4 + (5 : Int32) → (vp_in x31 scL ∧ ∀ x33 : Int32, x33 = scx x31.toNatClampNeg → (ob S16 v2 11 ∧ (kk + 8 ≤ rm_L_law.cells ∧ nn + 7937 ≤ rm_L_law.slots ∧ (P_X11_there v2 x21 x24 x27 x30 x33 (fun x36 S34 => Gr S16 S34 → (P_L_law_2341 scL scx Q X23 v1 v2 v3 v4 (kk + 8) (nn + 7937) S34)) S16)))))))))))))) S))))))))))))
set_option maxRecDepth 20000 in
set_option maxHeartbeats 4000000 in
theorem T_L_law_1539 {X : CX} {Q : Int32 → HS → Prop} {scb scL : Nat} {scx : Nat → Int32} (C : Cx X cL_law RL 7 rm_L_law) (E : LE X scb scL scx Q) (ht : LD X) (hn : True) {X23 : Nat → Nat → Nat → Int32 → Nat → Nat → HS → Prop} (hX23 : ∀ (v1 : Nat) (v2 : Nat) (v3 : Nat) (v4 : Int32) (kk : Nat) (nn : Nat) (S : HS), X23 v1 v2 v3 v4 kk nn S → WS X 7 kk nn 23 [(0, .ref scb), (1, .ref v1), (2, .ref v2), (3, .ref v3), (4, .int v4)] [] S) {v1 : Nat} {v2 : Nat} {v3 : Nat} {v4 : Int32} {kk : Nat} {nn : Nat} {S : HS} (h : P_L_law_1539 scL scx Q X23 v1 v2 v3 v4 kk nn S) : WS X 7 kk nn 1539 [(0, .ref scb), (1, .ref v1), (2, .ref v2), (3, .ref v3), (4, .int v4)] [] S := by
  refine r_aload_n (pc := 1539) C dL_law_1539 1 rfl ?_
  refine r_aload_n (pc := 1540) C dL_law_1540 0 rfl ?_
  refine r_iload (pc := 1541) C dL_law_1541 4 rfl ?_
  refine r_iconst (pc := 1543) C (v := (1 : Int32)) dL_law_1543 (by decide) ?_
  refine r_iadd (pc := 1544) C dL_law_1544 ?_
  refine r_topi (fun x1 ex1 => ?_)
  have h := h x1 ex1
  obtain ⟨i2, h⟩ := h
  refine r_scLd (pc := 1545) C E i2 dL_law_1545 ?_
  refine r_topi (fun x3 ex3 => ?_)
  have h := h x3 ex3
  refine r_aload_n (pc := 1546) C dL_law_1546 0 rfl ?_
  refine r_iload (pc := 1547) C dL_law_1547 4 rfl ?_
  refine r_iconst (pc := 1549) C (v := (2 : Int32)) dL_law_1549 (by decide) ?_
  refine r_iadd (pc := 1550) C dL_law_1550 ?_
  refine r_topi (fun x4 ex4 => ?_)
  have h := h x4 ex4
  obtain ⟨i5, h⟩ := h
  refine r_scLd (pc := 1551) C E i5 dL_law_1551 ?_
  refine r_topi (fun x6 ex6 => ?_)
  have h := h x6 ex6
  refine r_aload_n (pc := 1552) C dL_law_1552 0 rfl ?_
  refine r_iload (pc := 1553) C dL_law_1553 4 rfl ?_
  refine r_iconst (pc := 1555) C (v := (3 : Int32)) dL_law_1555 (by decide) ?_
  refine r_iadd (pc := 1556) C dL_law_1556 ?_
  refine r_topi (fun x7 ex7 => ?_)
  have h := h x7 ex7
  obtain ⟨i8, h⟩ := h
  refine r_scLd (pc := 1557) C E i8 dL_law_1557 ?_
  refine r_topi (fun x9 ex9 => ?_)
  have h := h x9 ex9
  refine r_aload_n (pc := 1558) C dL_law_1558 0 rfl ?_
  refine r_iload (pc := 1559) C dL_law_1559 4 rfl ?_
  refine r_iconst (pc := 1561) C (v := (4 : Int32)) dL_law_1561 (by decide) ?_
  refine r_iadd (pc := 1562) C dL_law_1562 ?_
  refine r_topi (fun x10 ex10 => ?_)
  have h := h x10 ex10
  obtain ⟨i11, h⟩ := h
  refine r_scLd (pc := 1563) C E i11 dL_law_1563 ?_
  refine r_topi (fun x12 ex12 => ?_)
  have h := h x12 ex12
  refine r_aload_n (pc := 1564) C dL_law_1564 0 rfl ?_
  refine r_iload (pc := 1565) C dL_law_1565 4 rfl ?_
  refine r_iconst (pc := 1567) C (v := (5 : Int32)) dL_law_1567 (by decide) ?_
  refine r_iadd (pc := 1568) C dL_law_1568 ?_
  refine r_topi (fun x13 ex13 => ?_)
  have h := h x13 ex13
  obtain ⟨i14, h⟩ := h
  refine r_scLd (pc := 1569) C E i14 dL_law_1569 ?_
  refine r_topi (fun x15 ex15 => ?_)
  have h := h x15 ex15
  obtain ⟨o_v1, h⟩ := h
  obtain ⟨hk, hk2, h⟩ := h
  refine r_callVi (pc := 1570) C (rest := []) (a := v1) o_v1 [.int x3, .int x6, .int x9, .int x12, .int x15] yV_X9_there g_900 (c_X9_there h) dL_law_1570 rfl rfl (Nat.le_of_ble_eq_true rfl) ⟨by decide, by decide⟩ ⟨hk, hk2⟩ (fun x18 S16 h g17 => ?_)
  have h := h g17
  have o_v1 := gr_ob g17 o_v1
  refine r_pop (pc := 1573) C dL_law_1573 rfl ?_
  refine r_aload_n (pc := 1574) C dL_law_1574 2 rfl ?_
  refine r_aload_n (pc := 1575) C dL_law_1575 0 rfl ?_
  refine r_iload (pc := 1576) C dL_law_1576 4 rfl ?_
  refine r_iconst (pc := 1578) C (v := (1 : Int32)) dL_law_1578 (by decide) ?_
  refine r_iadd (pc := 1579) C dL_law_1579 ?_
  refine r_topi (fun x19 ex19 => ?_)
  have h := h x19 ex19
  obtain ⟨i20, h⟩ := h
  refine r_scLd (pc := 1580) C E i20 dL_law_1580 ?_
  refine r_topi (fun x21 ex21 => ?_)
  have h := h x21 ex21
  refine r_aload_n (pc := 1581) C dL_law_1581 0 rfl ?_
  refine r_iload (pc := 1582) C dL_law_1582 4 rfl ?_
  refine r_iconst (pc := 1584) C (v := (2 : Int32)) dL_law_1584 (by decide) ?_
  refine r_iadd (pc := 1585) C dL_law_1585 ?_
  refine r_topi (fun x22 ex22 => ?_)
  have h := h x22 ex22
  obtain ⟨i23, h⟩ := h
  refine r_scLd (pc := 1586) C E i23 dL_law_1586 ?_
  refine r_topi (fun x24 ex24 => ?_)
  have h := h x24 ex24
  refine r_aload_n (pc := 1587) C dL_law_1587 0 rfl ?_
  refine r_iload (pc := 1588) C dL_law_1588 4 rfl ?_
  refine r_iconst (pc := 1590) C (v := (3 : Int32)) dL_law_1590 (by decide) ?_
  refine r_iadd (pc := 1591) C dL_law_1591 ?_
  refine r_topi (fun x25 ex25 => ?_)
  have h := h x25 ex25
  obtain ⟨i26, h⟩ := h
  refine r_scLd (pc := 1592) C E i26 dL_law_1592 ?_
  refine r_topi (fun x27 ex27 => ?_)
  have h := h x27 ex27
  refine r_aload_n (pc := 1593) C dL_law_1593 0 rfl ?_
  refine r_iload (pc := 1594) C dL_law_1594 4 rfl ?_
  refine r_iconst (pc := 1596) C (v := (4 : Int32)) dL_law_1596 (by decide) ?_
  refine r_iadd (pc := 1597) C dL_law_1597 ?_
  refine r_topi (fun x28 ex28 => ?_)
  have h := h x28 ex28
  obtain ⟨i29, h⟩ := h
  refine r_scLd (pc := 1598) C E i29 dL_law_1598 ?_
  refine r_topi (fun x30 ex30 => ?_)
  have h := h x30 ex30
  refine r_aload_n (pc := 1599) C dL_law_1599 0 rfl ?_
  refine r_iload (pc := 1600) C dL_law_1600 4 rfl ?_
  refine r_iconst (pc := 1602) C (v := (5 : Int32)) dL_law_1602 (by decide) ?_
  refine r_iadd (pc := 1603) C dL_law_1603 ?_
  refine r_topi (fun x31 ex31 => ?_)
  have h := h x31 ex31
  obtain ⟨i32, h⟩ := h
  refine r_scLd (pc := 1604) C E i32 dL_law_1604 ?_
  refine r_topi (fun x33 ex33 => ?_)
  have h := h x33 ex33
  obtain ⟨o_v2, h⟩ := h
  obtain ⟨hk, hk2, h⟩ := h
  refine r_callVi0 (pc := 1605) C (rest := []) (a := v2) o_v2 [.int x21, .int x24, .int x27, .int x30, .int x33] yV_X11_there g_1727 (c_X11_there h) dL_law_1605 rfl rfl (Nat.le_of_ble_eq_true rfl) ⟨by decide, by decide⟩ ⟨hk, hk2⟩ ⟨rfl, rfl⟩ (fun x36 S34 h g35 => ?_)
  have h := h g35
  have o_v1 := gr_ob g35 o_v1
  have o_v2 := gr_ob g35 o_v2
  refine r_pop (pc := 1608) C dL_law_1608 rfl ?_
  refine r_goto (pc := 1609) C (tgt := 2341) dL_law_1609 (by decide) ?_
  exact r_sub [0, 1, 2, 3, 4] rfl (T_L_law_2341 C E ht hn hX23 h)
def P_L_law_1612 (scL : Nat) (scx : Nat → Int32) (Q : Int32 → HS → Prop) (X23 : Nat → Nat → Nat → Int32 → Nat → Nat → HS → Prop) (v1 : Nat) (v2 : Nat) (v3 : Nat) (v4 : Int32) (kk : Nat) (nn : Nat) (S : HS) : Prop := ∀ x1 : Int32, x1 = v4 + (1 : Int32) → (vp_in x1 scL ∧ ∀ x3 : Int32, x3 = scx x1.toNatClampNeg → (∀ x4 : Int32, x4 = v4 + (2 : Int32) → (vp_in x4 scL ∧ ∀ x6 : Int32, x6 = scx x4.toNatClampNeg → (∀ x7 : Int32, x7 = v4 + (3 : Int32) → (vp_in x7 scL ∧ ∀ x9 : Int32, x9 = scx x7.toNatClampNeg → (∀ x10 : Int32, x10 = v4 + (4 : Int32) → (vp_in x10 scL ∧ ∀ x12 : Int32, x12 = scx x10.toNatClampNeg → (∀ x13 : Int32, x13 = v4 + (5 : Int32) → (vp_in x13 scL ∧ ∀ x15 : Int32, x15 = scx x13.toNatClampNeg → (ob S v1 9 ∧ (kk + 8 ≤ rm_L_law.cells ∧ nn + 7937 ≤ rm_L_law.slots ∧ (P_X9_steps v1 x3 x6 x9 x12 x15 (fun x18 S16 => Gr S S16 → (∀ x19 : Int32, x19 = v4 + (1 : Int32) → (vp_in x19 scL ∧ ∀ x21 : Int32, x21 = scx x19.toNatClampNeg → (∀ x22 : Int32, x22 = v4 + (2 : Int32) → (vp_in x22 scL ∧ ∀ x24 : Int32, x24 = scx x22.toNatClampNeg → (∀ x25 : Int32, x25 = v4 + (3 : Int32) → (vp_in x25 scL ∧ ∀ x27 : Int32, x27 = scx x25.toNatClampNeg → (∀ x28 : Int32, x28 = v4 + (4 : Int32) → (vp_in x28 scL ∧ ∀ x30 : Int32, x30 = scx x28.toNatClampNeg → (∀ x31 : Int32, x31 = v4 + (5 : Int32) → (vp_in x31 scL ∧ ∀ x33 : Int32, x33 = scx x31.toNatClampNeg → (ob S16 v2 11 ∧ (kk + 8 ≤ rm_L_law.cells ∧ nn + 7937 ≤ rm_L_law.slots ∧ (P_X11_steps v2 x21 x24 x27 x30 x33 (fun x36 S34 => Gr S16 S34 → (P_L_law_2341 scL scx Q X23 v1 v2 v3 v4 (kk + 8) (nn + 7937) S34)) S16)))))))))))))) S))))))))))))
set_option maxRecDepth 20000 in
set_option maxHeartbeats 4000000 in
theorem T_L_law_1612 {X : CX} {Q : Int32 → HS → Prop} {scb scL : Nat} {scx : Nat → Int32} (C : Cx X cL_law RL 7 rm_L_law) (E : LE X scb scL scx Q) (ht : LD X) (hn : True) {X23 : Nat → Nat → Nat → Int32 → Nat → Nat → HS → Prop} (hX23 : ∀ (v1 : Nat) (v2 : Nat) (v3 : Nat) (v4 : Int32) (kk : Nat) (nn : Nat) (S : HS), X23 v1 v2 v3 v4 kk nn S → WS X 7 kk nn 23 [(0, .ref scb), (1, .ref v1), (2, .ref v2), (3, .ref v3), (4, .int v4)] [] S) {v1 : Nat} {v2 : Nat} {v3 : Nat} {v4 : Int32} {kk : Nat} {nn : Nat} {S : HS} (h : P_L_law_1612 scL scx Q X23 v1 v2 v3 v4 kk nn S) : WS X 7 kk nn 1612 [(0, .ref scb), (1, .ref v1), (2, .ref v2), (3, .ref v3), (4, .int v4)] [] S := by
  refine r_aload_n (pc := 1612) C dL_law_1612 1 rfl ?_
  refine r_aload_n (pc := 1613) C dL_law_1613 0 rfl ?_
  refine r_iload (pc := 1614) C dL_law_1614 4 rfl ?_
  refine r_iconst (pc := 1616) C (v := (1 : Int32)) dL_law_1616 (by decide) ?_
  refine r_iadd (pc := 1617) C dL_law_1617 ?_
  refine r_topi (fun x1 ex1 => ?_)
  have h := h x1 ex1
  obtain ⟨i2, h⟩ := h
  refine r_scLd (pc := 1618) C E i2 dL_law_1618 ?_
  refine r_topi (fun x3 ex3 => ?_)
  have h := h x3 ex3
  refine r_aload_n (pc := 1619) C dL_law_1619 0 rfl ?_
  refine r_iload (pc := 1620) C dL_law_1620 4 rfl ?_
  refine r_iconst (pc := 1622) C (v := (2 : Int32)) dL_law_1622 (by decide) ?_
  refine r_iadd (pc := 1623) C dL_law_1623 ?_
  refine r_topi (fun x4 ex4 => ?_)
  have h := h x4 ex4
  obtain ⟨i5, h⟩ := h
  refine r_scLd (pc := 1624) C E i5 dL_law_1624 ?_
  refine r_topi (fun x6 ex6 => ?_)
  have h := h x6 ex6
  refine r_aload_n (pc := 1625) C dL_law_1625 0 rfl ?_
  refine r_iload (pc := 1626) C dL_law_1626 4 rfl ?_
  refine r_iconst (pc := 1628) C (v := (3 : Int32)) dL_law_1628 (by decide) ?_
  refine r_iadd (pc := 1629) C dL_law_1629 ?_
  refine r_topi (fun x7 ex7 => ?_)
  have h := h x7 ex7
  obtain ⟨i8, h⟩ := h
  refine r_scLd (pc := 1630) C E i8 dL_law_1630 ?_
  refine r_topi (fun x9 ex9 => ?_)
  have h := h x9 ex9
  refine r_aload_n (pc := 1631) C dL_law_1631 0 rfl ?_
  refine r_iload (pc := 1632) C dL_law_1632 4 rfl ?_
  refine r_iconst (pc := 1634) C (v := (4 : Int32)) dL_law_1634 (by decide) ?_
  refine r_iadd (pc := 1635) C dL_law_1635 ?_
  refine r_topi (fun x10 ex10 => ?_)
  have h := h x10 ex10
  obtain ⟨i11, h⟩ := h
  refine r_scLd (pc := 1636) C E i11 dL_law_1636 ?_
  refine r_topi (fun x12 ex12 => ?_)
  have h := h x12 ex12
  refine r_aload_n (pc := 1637) C dL_law_1637 0 rfl ?_
  refine r_iload (pc := 1638) C dL_law_1638 4 rfl ?_
  refine r_iconst (pc := 1640) C (v := (5 : Int32)) dL_law_1640 (by decide) ?_
  refine r_iadd (pc := 1641) C dL_law_1641 ?_
  refine r_topi (fun x13 ex13 => ?_)
  have h := h x13 ex13
  obtain ⟨i14, h⟩ := h
  refine r_scLd (pc := 1642) C E i14 dL_law_1642 ?_
  refine r_topi (fun x15 ex15 => ?_)
  have h := h x15 ex15
  obtain ⟨o_v1, h⟩ := h
  obtain ⟨hk, hk2, h⟩ := h
  refine r_callVi (pc := 1643) C (rest := []) (a := v1) o_v1 [.int x3, .int x6, .int x9, .int x12, .int x15] yV_X9_steps g_908 (c_X9_steps h) dL_law_1643 rfl rfl (Nat.le_of_ble_eq_true rfl) ⟨by decide, by decide⟩ ⟨hk, hk2⟩ (fun x18 S16 h g17 => ?_)
  have h := h g17
  have o_v1 := gr_ob g17 o_v1
  refine r_pop (pc := 1646) C dL_law_1646 rfl ?_
  refine r_aload_n (pc := 1647) C dL_law_1647 2 rfl ?_
  refine r_aload_n (pc := 1648) C dL_law_1648 0 rfl ?_
  refine r_iload (pc := 1649) C dL_law_1649 4 rfl ?_
  refine r_iconst (pc := 1651) C (v := (1 : Int32)) dL_law_1651 (by decide) ?_
  refine r_iadd (pc := 1652) C dL_law_1652 ?_
  refine r_topi (fun x19 ex19 => ?_)
  have h := h x19 ex19
  obtain ⟨i20, h⟩ := h
  refine r_scLd (pc := 1653) C E i20 dL_law_1653 ?_
  refine r_topi (fun x21 ex21 => ?_)
  have h := h x21 ex21
  refine r_aload_n (pc := 1654) C dL_law_1654 0 rfl ?_
  refine r_iload (pc := 1655) C dL_law_1655 4 rfl ?_
  refine r_iconst (pc := 1657) C (v := (2 : Int32)) dL_law_1657 (by decide) ?_
  refine r_iadd (pc := 1658) C dL_law_1658 ?_
  refine r_topi (fun x22 ex22 => ?_)
  have h := h x22 ex22
  obtain ⟨i23, h⟩ := h
  refine r_scLd (pc := 1659) C E i23 dL_law_1659 ?_
  refine r_topi (fun x24 ex24 => ?_)
  have h := h x24 ex24
  refine r_aload_n (pc := 1660) C dL_law_1660 0 rfl ?_
  refine r_iload (pc := 1661) C dL_law_1661 4 rfl ?_
  refine r_iconst (pc := 1663) C (v := (3 : Int32)) dL_law_1663 (by decide) ?_
  refine r_iadd (pc := 1664) C dL_law_1664 ?_
  refine r_topi (fun x25 ex25 => ?_)
  have h := h x25 ex25
  obtain ⟨i26, h⟩ := h
  refine r_scLd (pc := 1665) C E i26 dL_law_1665 ?_
  refine r_topi (fun x27 ex27 => ?_)
  have h := h x27 ex27
  refine r_aload_n (pc := 1666) C dL_law_1666 0 rfl ?_
  refine r_iload (pc := 1667) C dL_law_1667 4 rfl ?_
  refine r_iconst (pc := 1669) C (v := (4 : Int32)) dL_law_1669 (by decide) ?_
  refine r_iadd (pc := 1670) C dL_law_1670 ?_
  refine r_topi (fun x28 ex28 => ?_)
  have h := h x28 ex28
  obtain ⟨i29, h⟩ := h
  refine r_scLd (pc := 1671) C E i29 dL_law_1671 ?_
  refine r_topi (fun x30 ex30 => ?_)
  have h := h x30 ex30
  refine r_aload_n (pc := 1672) C dL_law_1672 0 rfl ?_
  refine r_iload (pc := 1673) C dL_law_1673 4 rfl ?_
  refine r_iconst (pc := 1675) C (v := (5 : Int32)) dL_law_1675 (by decide) ?_
  refine r_iadd (pc := 1676) C dL_law_1676 ?_
  refine r_topi (fun x31 ex31 => ?_)
  have h := h x31 ex31
  obtain ⟨i32, h⟩ := h
  refine r_scLd (pc := 1677) C E i32 dL_law_1677 ?_
  refine r_topi (fun x33 ex33 => ?_)
  have h := h x33 ex33
  obtain ⟨o_v2, h⟩ := h
  obtain ⟨hk, hk2, h⟩ := h
  refine r_callVi0 (pc := 1678) C (rest := []) (a := v2) o_v2 [.int x21, .int x24, .int x27, .int x30, .int x33] yV_X11_steps g_1731 (c_X11_steps h) dL_law_1678 rfl rfl (Nat.le_of_ble_eq_true rfl) ⟨by decide, by decide⟩ ⟨hk, hk2⟩ ⟨rfl, rfl⟩ (fun x36 S34 h g35 => ?_)
  have h := h g35
  have o_v1 := gr_ob g35 o_v1
  have o_v2 := gr_ob g35 o_v2
  refine r_pop (pc := 1681) C dL_law_1681 rfl ?_
  refine r_goto (pc := 1682) C (tgt := 2341) dL_law_1682 (by decide) ?_
  exact r_sub [0, 1, 2, 3, 4] rfl (T_L_law_2341 C E ht hn hX23 h)
def P_L_law_1685 (scL : Nat) (scx : Nat → Int32) (Q : Int32 → HS → Prop) (X23 : Nat → Nat → Nat → Int32 → Nat → Nat → HS → Prop) (v1 : Nat) (v2 : Nat) (v3 : Nat) (v4 : Int32) (kk : Nat) (nn : Nat) (S : HS) : Prop := ∀ x1 : Int32, x1 = v4 + (1 : Int32) → (vp_in x1 scL ∧ ∀ x3 : Int32, x3 = scx x1.toNatClampNeg → (∀ x4 : Int32, x4 = v4 + (2 : Int32) → (vp_in x4 scL ∧ ∀ x6 : Int32, x6 = scx x4.toNatClampNeg → (∀ x7 : Int32, x7 = v4 + (3 : Int32) → (vp_in x7 scL ∧ ∀ x9 : Int32, x9 = scx x7.toNatClampNeg → (∀ x10 : Int32, x10 = v4 + (4 : Int32) → (vp_in x10 scL ∧ ∀ x12 : Int32, x12 = scx x10.toNatClampNeg → (∀ x13 : Int32, x13 = v4 + (5 : Int32) → (vp_in x13 scL ∧ ∀ x15 : Int32, x15 = scx x13.toNatClampNeg → (∀ x16 : Int32, x16 = v4 + (6 : Int32) → (vp_in x16 scL ∧ ∀ x18 : Int32, x18 = scx x16.toNatClampNeg → (ob S v1 9 ∧ (kk + 8 ≤ rm_L_law.cells ∧ nn + 7937 ≤ rm_L_law.slots ∧ (P_X9_step v1 x3 x6 x9 x12 x15 x18 (fun x21 S19 => Gr S S19 → (∀ x22 : Int32, x22 = v4 + (1 : Int32) → (vp_in x22 scL ∧ ∀ x24 : Int32, x24 = scx x22.toNatClampNeg → (∀ x25 : Int32, x25 = v4 + (2 : Int32) → (vp_in x25 scL ∧ ∀ x27 : Int32, x27 = scx x25.toNatClampNeg → (∀ x28 : Int32, x28 = v4 + (3 : Int32) → (vp_in x28 scL ∧ ∀ x30 : Int32, x30 = scx x28.toNatClampNeg → (∀ x31 : Int32, x31 = v4 + (4 : Int32) → (vp_in x31 scL ∧ ∀ x33 : Int32, x33 = scx x31.toNatClampNeg → (∀ x34 : Int32, x34 = v4 + (5 : Int32) → (vp_in x34 scL ∧ ∀ x36 : Int32, x36 = scx x34.toNatClampNeg → (∀ x37 : Int32, x37 = v4 + (6 : Int32) → (vp_in x37 scL ∧ ∀ x39 : Int32, x39 = scx x37.toNatClampNeg → (ob S19 v2 11 ∧ (kk + 8 ≤ rm_L_law.cells ∧ nn + 7937 ≤ rm_L_law.slots ∧ (P_X11_step v2 x24 x27 x30 x33 x36 x39 (fun x42 S40 => Gr S19 S40 → (P_L_law_2341 scL scx Q X23 v1 v2 v3 v4 (kk + 8) (nn + 7937) S40)) S19)))))))))))))))) S))))))))))))))
set_option maxRecDepth 20000 in
set_option maxHeartbeats 4000000 in
theorem T_L_law_1685 {X : CX} {Q : Int32 → HS → Prop} {scb scL : Nat} {scx : Nat → Int32} (C : Cx X cL_law RL 7 rm_L_law) (E : LE X scb scL scx Q) (ht : LD X) (hn : True) {X23 : Nat → Nat → Nat → Int32 → Nat → Nat → HS → Prop} (hX23 : ∀ (v1 : Nat) (v2 : Nat) (v3 : Nat) (v4 : Int32) (kk : Nat) (nn : Nat) (S : HS), X23 v1 v2 v3 v4 kk nn S → WS X 7 kk nn 23 [(0, .ref scb), (1, .ref v1), (2, .ref v2), (3, .ref v3), (4, .int v4)] [] S) {v1 : Nat} {v2 : Nat} {v3 : Nat} {v4 : Int32} {kk : Nat} {nn : Nat} {S : HS} (h : P_L_law_1685 scL scx Q X23 v1 v2 v3 v4 kk nn S) : WS X 7 kk nn 1685 [(0, .ref scb), (1, .ref v1), (2, .ref v2), (3, .ref v3), (4, .int v4)] [] S := by
  refine r_aload_n (pc := 1685) C dL_law_1685 1 rfl ?_
  refine r_aload_n (pc := 1686) C dL_law_1686 0 rfl ?_
  refine r_iload (pc := 1687) C dL_law_1687 4 rfl ?_
  refine r_iconst (pc := 1689) C (v := (1 : Int32)) dL_law_1689 (by decide) ?_
  refine r_iadd (pc := 1690) C dL_law_1690 ?_
  refine r_topi (fun x1 ex1 => ?_)
  have h := h x1 ex1
  obtain ⟨i2, h⟩ := h
  refine r_scLd (pc := 1691) C E i2 dL_law_1691 ?_
  refine r_topi (fun x3 ex3 => ?_)
  have h := h x3 ex3
  refine r_aload_n (pc := 1692) C dL_law_1692 0 rfl ?_
  refine r_iload (pc := 1693) C dL_law_1693 4 rfl ?_
  refine r_iconst (pc := 1695) C (v := (2 : Int32)) dL_law_1695 (by decide) ?_
  refine r_iadd (pc := 1696) C dL_law_1696 ?_
  refine r_topi (fun x4 ex4 => ?_)
  have h := h x4 ex4
  obtain ⟨i5, h⟩ := h
  refine r_scLd (pc := 1697) C E i5 dL_law_1697 ?_
  refine r_topi (fun x6 ex6 => ?_)
  have h := h x6 ex6
  refine r_aload_n (pc := 1698) C dL_law_1698 0 rfl ?_
  refine r_iload (pc := 1699) C dL_law_1699 4 rfl ?_
  refine r_iconst (pc := 1701) C (v := (3 : Int32)) dL_law_1701 (by decide) ?_
  refine r_iadd (pc := 1702) C dL_law_1702 ?_
  refine r_topi (fun x7 ex7 => ?_)
  have h := h x7 ex7
  obtain ⟨i8, h⟩ := h
  refine r_scLd (pc := 1703) C E i8 dL_law_1703 ?_
  refine r_topi (fun x9 ex9 => ?_)
  have h := h x9 ex9
  refine r_aload_n (pc := 1704) C dL_law_1704 0 rfl ?_
  refine r_iload (pc := 1705) C dL_law_1705 4 rfl ?_
  refine r_iconst (pc := 1707) C (v := (4 : Int32)) dL_law_1707 (by decide) ?_
  refine r_iadd (pc := 1708) C dL_law_1708 ?_
  refine r_topi (fun x10 ex10 => ?_)
  have h := h x10 ex10
  obtain ⟨i11, h⟩ := h
  refine r_scLd (pc := 1709) C E i11 dL_law_1709 ?_
  refine r_topi (fun x12 ex12 => ?_)
  have h := h x12 ex12
  refine r_aload_n (pc := 1710) C dL_law_1710 0 rfl ?_
  refine r_iload (pc := 1711) C dL_law_1711 4 rfl ?_
  refine r_iconst (pc := 1713) C (v := (5 : Int32)) dL_law_1713 (by decide) ?_
  refine r_iadd (pc := 1714) C dL_law_1714 ?_
  refine r_topi (fun x13 ex13 => ?_)
  have h := h x13 ex13
  obtain ⟨i14, h⟩ := h
  refine r_scLd (pc := 1715) C E i14 dL_law_1715 ?_
  refine r_topi (fun x15 ex15 => ?_)
  have h := h x15 ex15
  refine r_aload_n (pc := 1716) C dL_law_1716 0 rfl ?_
  refine r_iload (pc := 1717) C dL_law_1717 4 rfl ?_
  refine r_bipush (pc := 1719) C (v := (6 : Int32)) dL_law_1719 (by decide) ?_
  refine r_iadd (pc := 1721) C dL_law_1721 ?_
  refine r_topi (fun x16 ex16 => ?_)
  have h := h x16 ex16
  obtain ⟨i17, h⟩ := h
  refine r_scLd (pc := 1722) C E i17 dL_law_1722 ?_
  refine r_topi (fun x18 ex18 => ?_)
  have h := h x18 ex18
  obtain ⟨o_v1, h⟩ := h
  obtain ⟨hk, hk2, h⟩ := h
  refine r_callVi (pc := 1723) C (rest := []) (a := v1) o_v1 [.int x3, .int x6, .int x9, .int x12, .int x15, .int x18] yV_X9_step g_917 (c_X9_step h) dL_law_1723 rfl rfl (Nat.le_of_ble_eq_true rfl) ⟨by decide, by decide⟩ ⟨hk, hk2⟩ (fun x21 S19 h g20 => ?_)
  have h := h g20
  have o_v1 := gr_ob g20 o_v1
  refine r_pop (pc := 1726) C dL_law_1726 rfl ?_
  refine r_aload_n (pc := 1727) C dL_law_1727 2 rfl ?_
  refine r_aload_n (pc := 1728) C dL_law_1728 0 rfl ?_
  refine r_iload (pc := 1729) C dL_law_1729 4 rfl ?_
  refine r_iconst (pc := 1731) C (v := (1 : Int32)) dL_law_1731 (by decide) ?_
  refine r_iadd (pc := 1732) C dL_law_1732 ?_
  refine r_topi (fun x22 ex22 => ?_)
  have h := h x22 ex22
  obtain ⟨i23, h⟩ := h
  refine r_scLd (pc := 1733) C E i23 dL_law_1733 ?_
  refine r_topi (fun x24 ex24 => ?_)
  have h := h x24 ex24
  refine r_aload_n (pc := 1734) C dL_law_1734 0 rfl ?_
  refine r_iload (pc := 1735) C dL_law_1735 4 rfl ?_
  refine r_iconst (pc := 1737) C (v := (2 : Int32)) dL_law_1737 (by decide) ?_
  refine r_iadd (pc := 1738) C dL_law_1738 ?_
  refine r_topi (fun x25 ex25 => ?_)
  have h := h x25 ex25
  obtain ⟨i26, h⟩ := h
  refine r_scLd (pc := 1739) C E i26 dL_law_1739 ?_
  refine r_topi (fun x27 ex27 => ?_)
  have h := h x27 ex27
  refine r_aload_n (pc := 1740) C dL_law_1740 0 rfl ?_
  refine r_iload (pc := 1741) C dL_law_1741 4 rfl ?_
  refine r_iconst (pc := 1743) C (v := (3 : Int32)) dL_law_1743 (by decide) ?_
  refine r_iadd (pc := 1744) C dL_law_1744 ?_
  refine r_topi (fun x28 ex28 => ?_)
  have h := h x28 ex28
  obtain ⟨i29, h⟩ := h
  refine r_scLd (pc := 1745) C E i29 dL_law_1745 ?_
  refine r_topi (fun x30 ex30 => ?_)
  have h := h x30 ex30
  refine r_aload_n (pc := 1746) C dL_law_1746 0 rfl ?_
  refine r_iload (pc := 1747) C dL_law_1747 4 rfl ?_
  refine r_iconst (pc := 1749) C (v := (4 : Int32)) dL_law_1749 (by decide) ?_
  refine r_iadd (pc := 1750) C dL_law_1750 ?_
  refine r_topi (fun x31 ex31 => ?_)
  have h := h x31 ex31
  obtain ⟨i32, h⟩ := h
  refine r_scLd (pc := 1751) C E i32 dL_law_1751 ?_
  refine r_topi (fun x33 ex33 => ?_)
  have h := h x33 ex33
  refine r_aload_n (pc := 1752) C dL_law_1752 0 rfl ?_
  refine r_iload (pc := 1753) C dL_law_1753 4 rfl ?_
  refine r_iconst (pc := 1755) C (v := (5 : Int32)) dL_law_1755 (by decide) ?_
  refine r_iadd (pc := 1756) C dL_law_1756 ?_
  refine r_topi (fun x34 ex34 => ?_)
  have h := h x34 ex34
  obtain ⟨i35, h⟩ := h
  refine r_scLd (pc := 1757) C E i35 dL_law_1757 ?_
  refine r_topi (fun x36 ex36 => ?_)
  have h := h x36 ex36
  refine r_aload_n (pc := 1758) C dL_law_1758 0 rfl ?_
  refine r_iload (pc := 1759) C dL_law_1759 4 rfl ?_
  refine r_bipush (pc := 1761) C (v := (6 : Int32)) dL_law_1761 (by decide) ?_
  refine r_iadd (pc := 1763) C dL_law_1763 ?_
  refine r_topi (fun x37 ex37 => ?_)
  have h := h x37 ex37
  obtain ⟨i38, h⟩ := h
  refine r_scLd (pc := 1764) C E i38 dL_law_1764 ?_
  refine r_topi (fun x39 ex39 => ?_)
  have h := h x39 ex39
  obtain ⟨o_v2, h⟩ := h
  obtain ⟨hk, hk2, h⟩ := h
  refine r_callVi0 (pc := 1765) C (rest := []) (a := v2) o_v2 [.int x24, .int x27, .int x30, .int x33, .int x36, .int x39] yV_X11_step g_1739 (c_X11_step h) dL_law_1765 rfl rfl (Nat.le_of_ble_eq_true rfl) ⟨by decide, by decide⟩ ⟨hk, hk2⟩ ⟨rfl, rfl⟩ (fun x42 S40 h g41 => ?_)
  have h := h g41
  have o_v1 := gr_ob g41 o_v1
  have o_v2 := gr_ob g41 o_v2
  refine r_pop (pc := 1768) C dL_law_1768 rfl ?_
  refine r_goto (pc := 1769) C (tgt := 2341) dL_law_1769 (by decide) ?_
  exact r_sub [0, 1, 2, 3, 4] rfl (T_L_law_2341 C E ht hn hX23 h)
def P_L_law_1772 (scL : Nat) (scx : Nat → Int32) (Q : Int32 → HS → Prop) (X23 : Nat → Nat → Nat → Int32 → Nat → Nat → HS → Prop) (v1 : Nat) (v2 : Nat) (v3 : Nat) (v4 : Int32) (kk : Nat) (nn : Nat) (S : HS) : Prop := ∀ x1 : Int32, x1 = v4 + (1 : Int32) → (vp_in x1 scL ∧ ∀ x3 : Int32, x3 = scx x1.toNatClampNeg → (∀ x4 : Int32, x4 = v4 + (2 : Int32) → (vp_in x4 scL ∧ ∀ x6 : Int32, x6 = scx x4.toNatClampNeg → (∀ x7 : Int32, x7 = v4 + (3 : Int32) → (vp_in x7 scL ∧ ∀ x9 : Int32, x9 = scx x7.toNatClampNeg → (∀ x10 : Int32, x10 = v4 + (4 : Int32) → (vp_in x10 scL ∧ ∀ x12 : Int32, x12 = scx x10.toNatClampNeg → (ob S v1 9 ∧ (kk + 8 ≤ rm_L_law.cells ∧ nn + 7937 ≤ rm_L_law.slots ∧ (P_X9_off v1 x3 x6 x9 x12 (fun x15 S13 => Gr S S13 → (∀ x16 : Int32, x16 = v4 + (1 : Int32) → (vp_in x16 scL ∧ ∀ x18 : Int32, x18 = scx x16.toNatClampNeg → (∀ x19 : Int32, x19 = v4 + (2 : Int32) → (vp_in x19 scL ∧ ∀ x21 : Int32, x21 = scx x19.toNatClampNeg → (∀ x22 : Int32, x22 = v4 + (3 : Int32) → (vp_in x22 scL ∧ ∀ x24 : Int32, x24 = scx x22.toNatClampNeg → (∀ x25 : Int32, x25 = v4 + (4 : Int32) → (vp_in x25 scL ∧ ∀ x27 : Int32, x27 = scx x25.toNatClampNeg → (ob S13 v2 11 ∧ (kk + 8 ≤ rm_L_law.cells ∧ nn + 7937 ≤ rm_L_law.slots ∧ (P_X11_off v2 x18 x21 x24 x27 (fun x30 S28 => Gr S13 S28 → (P_L_law_2341 scL scx Q X23 v1 v2 v3 v4 (kk + 8) (nn + 7937) S28)) S13)))))))))))) S))))))))))
set_option maxRecDepth 20000 in
set_option maxHeartbeats 4000000 in
theorem T_L_law_1772 {X : CX} {Q : Int32 → HS → Prop} {scb scL : Nat} {scx : Nat → Int32} (C : Cx X cL_law RL 7 rm_L_law) (E : LE X scb scL scx Q) (ht : LD X) (hn : True) {X23 : Nat → Nat → Nat → Int32 → Nat → Nat → HS → Prop} (hX23 : ∀ (v1 : Nat) (v2 : Nat) (v3 : Nat) (v4 : Int32) (kk : Nat) (nn : Nat) (S : HS), X23 v1 v2 v3 v4 kk nn S → WS X 7 kk nn 23 [(0, .ref scb), (1, .ref v1), (2, .ref v2), (3, .ref v3), (4, .int v4)] [] S) {v1 : Nat} {v2 : Nat} {v3 : Nat} {v4 : Int32} {kk : Nat} {nn : Nat} {S : HS} (h : P_L_law_1772 scL scx Q X23 v1 v2 v3 v4 kk nn S) : WS X 7 kk nn 1772 [(0, .ref scb), (1, .ref v1), (2, .ref v2), (3, .ref v3), (4, .int v4)] [] S := by
  refine r_aload_n (pc := 1772) C dL_law_1772 1 rfl ?_
  refine r_aload_n (pc := 1773) C dL_law_1773 0 rfl ?_
  refine r_iload (pc := 1774) C dL_law_1774 4 rfl ?_
  refine r_iconst (pc := 1776) C (v := (1 : Int32)) dL_law_1776 (by decide) ?_
  refine r_iadd (pc := 1777) C dL_law_1777 ?_
  refine r_topi (fun x1 ex1 => ?_)
  have h := h x1 ex1
  obtain ⟨i2, h⟩ := h
  refine r_scLd (pc := 1778) C E i2 dL_law_1778 ?_
  refine r_topi (fun x3 ex3 => ?_)
  have h := h x3 ex3
  refine r_aload_n (pc := 1779) C dL_law_1779 0 rfl ?_
  refine r_iload (pc := 1780) C dL_law_1780 4 rfl ?_
  refine r_iconst (pc := 1782) C (v := (2 : Int32)) dL_law_1782 (by decide) ?_
  refine r_iadd (pc := 1783) C dL_law_1783 ?_
  refine r_topi (fun x4 ex4 => ?_)
  have h := h x4 ex4
  obtain ⟨i5, h⟩ := h
  refine r_scLd (pc := 1784) C E i5 dL_law_1784 ?_
  refine r_topi (fun x6 ex6 => ?_)
  have h := h x6 ex6
  refine r_aload_n (pc := 1785) C dL_law_1785 0 rfl ?_
  refine r_iload (pc := 1786) C dL_law_1786 4 rfl ?_
  refine r_iconst (pc := 1788) C (v := (3 : Int32)) dL_law_1788 (by decide) ?_
  refine r_iadd (pc := 1789) C dL_law_1789 ?_
  refine r_topi (fun x7 ex7 => ?_)
  have h := h x7 ex7
  obtain ⟨i8, h⟩ := h
  refine r_scLd (pc := 1790) C E i8 dL_law_1790 ?_
  refine r_topi (fun x9 ex9 => ?_)
  have h := h x9 ex9
  refine r_aload_n (pc := 1791) C dL_law_1791 0 rfl ?_
  refine r_iload (pc := 1792) C dL_law_1792 4 rfl ?_
  refine r_iconst (pc := 1794) C (v := (4 : Int32)) dL_law_1794 (by decide) ?_
  refine r_iadd (pc := 1795) C dL_law_1795 ?_
  refine r_topi (fun x10 ex10 => ?_)
  have h := h x10 ex10
  obtain ⟨i11, h⟩ := h
  refine r_scLd (pc := 1796) C E i11 dL_law_1796 ?_
  refine r_topi (fun x12 ex12 => ?_)
  have h := h x12 ex12
  obtain ⟨o_v1, h⟩ := h
  obtain ⟨hk, hk2, h⟩ := h
  refine r_callVi (pc := 1797) C (rest := []) (a := v1) o_v1 [.int x3, .int x6, .int x9, .int x12] yV_X9_off g_921 (c_X9_off h) dL_law_1797 rfl rfl (Nat.le_of_ble_eq_true rfl) ⟨by decide, by decide⟩ ⟨hk, hk2⟩ (fun x15 S13 h g14 => ?_)
  have h := h g14
  have o_v1 := gr_ob g14 o_v1
  refine r_pop (pc := 1800) C dL_law_1800 rfl ?_
  refine r_aload_n (pc := 1801) C dL_law_1801 2 rfl ?_
  refine r_aload_n (pc := 1802) C dL_law_1802 0 rfl ?_
  refine r_iload (pc := 1803) C dL_law_1803 4 rfl ?_
  refine r_iconst (pc := 1805) C (v := (1 : Int32)) dL_law_1805 (by decide) ?_
  refine r_iadd (pc := 1806) C dL_law_1806 ?_
  refine r_topi (fun x16 ex16 => ?_)
  have h := h x16 ex16
  obtain ⟨i17, h⟩ := h
  refine r_scLd (pc := 1807) C E i17 dL_law_1807 ?_
  refine r_topi (fun x18 ex18 => ?_)
  have h := h x18 ex18
  refine r_aload_n (pc := 1808) C dL_law_1808 0 rfl ?_
  refine r_iload (pc := 1809) C dL_law_1809 4 rfl ?_
  refine r_iconst (pc := 1811) C (v := (2 : Int32)) dL_law_1811 (by decide) ?_
  refine r_iadd (pc := 1812) C dL_law_1812 ?_
  refine r_topi (fun x19 ex19 => ?_)
  have h := h x19 ex19
  obtain ⟨i20, h⟩ := h
  refine r_scLd (pc := 1813) C E i20 dL_law_1813 ?_
  refine r_topi (fun x21 ex21 => ?_)
  have h := h x21 ex21
  refine r_aload_n (pc := 1814) C dL_law_1814 0 rfl ?_
  refine r_iload (pc := 1815) C dL_law_1815 4 rfl ?_
  refine r_iconst (pc := 1817) C (v := (3 : Int32)) dL_law_1817 (by decide) ?_
  refine r_iadd (pc := 1818) C dL_law_1818 ?_
  refine r_topi (fun x22 ex22 => ?_)
  have h := h x22 ex22
  obtain ⟨i23, h⟩ := h
  refine r_scLd (pc := 1819) C E i23 dL_law_1819 ?_
  refine r_topi (fun x24 ex24 => ?_)
  have h := h x24 ex24
  refine r_aload_n (pc := 1820) C dL_law_1820 0 rfl ?_
  refine r_iload (pc := 1821) C dL_law_1821 4 rfl ?_
  refine r_iconst (pc := 1823) C (v := (4 : Int32)) dL_law_1823 (by decide) ?_
  refine r_iadd (pc := 1824) C dL_law_1824 ?_
  refine r_topi (fun x25 ex25 => ?_)
  have h := h x25 ex25
  obtain ⟨i26, h⟩ := h
  refine r_scLd (pc := 1825) C E i26 dL_law_1825 ?_
  refine r_topi (fun x27 ex27 => ?_)
  have h := h x27 ex27
  obtain ⟨o_v2, h⟩ := h
  obtain ⟨hk, hk2, h⟩ := h
  refine r_callVi0 (pc := 1826) C (rest := []) (a := v2) o_v2 [.int x18, .int x21, .int x24, .int x27] yV_X11_off g_1743 (c_X11_off h) dL_law_1826 rfl rfl (Nat.le_of_ble_eq_true rfl) ⟨by decide, by decide⟩ ⟨hk, hk2⟩ ⟨rfl, rfl⟩ (fun x30 S28 h g29 => ?_)
  have h := h g29
  have o_v1 := gr_ob g29 o_v1
  have o_v2 := gr_ob g29 o_v2
  refine r_pop (pc := 1829) C dL_law_1829 rfl ?_
  refine r_goto (pc := 1830) C (tgt := 2341) dL_law_1830 (by decide) ?_
  exact r_sub [0, 1, 2, 3, 4] rfl (T_L_law_2341 C E ht hn hX23 h)
