/-! The law's cases. -/
section LC
variable {p : Program} {l : Launch} {e : Env} {s : State} {m : MethodId} {b : Nat} {below : List Frame} {meth : Method} {c : Code} {D : va_G} {T : Nat → ClassId} {A : Nat → Prop} {cells slots : Nat} {Q : State → Prop} {adC adM : Nat → Nat} {aL aD : Nat} {σ : ZS} {f : Nat → Int64} {g : Nat → UInt64} {xs : Nat → Int32} {L i : Nat}
set_option maxHeartbeats 4000000 in
theorem lcase_14 (X : zC p s m #[Value.ref b] meth c cL_law 9 (wsLR ++ lwH) RL D (zT T) A) (hfl : l.stackTraces = false) (hX : va_X b L xs s s.heap) (hbl : b < s.heap.size) (hbA : ¬ A b) (hL : L ≤ 2048) (hi : i + 4 ≤ L) (hV : zV σ) (hc : cells + 4 ≤ 603072) (hs : slots + 24 ≤ 7215210) (k : ∀ (t : ZS) (f' : Nat → Int64) (g' : Nat → UInt64), zV t → zG p l e room_1 s m #[Value.ref b] below meth c D 9 A (cells + 4) (slots + 24) Q (wL adC adM aL aD T t t f' g') 3268 (lw0 b adC adM aL aD i) []) : zG p l e room_1 s m #[Value.ref b] below meth c D 9 A cells slots Q (wL adC adM aL aD T σ σ f g) 1227 (lw0 b adC adM aL aD i) [] := by
  refine zg_aload_n X dL_law_1227 rfl ?_
  refine zg_aload_n X dL_law_1228 rfl ?_
  refine zg_iload X dL_law_1229 rfl ?_
  refine zg_iconst X (v := nI 1) dL_law_1231 (by decide) ?_
  refine zg_iadd X dL_law_1232 ?_
  refine zg_top (lw_add i 1) ?_
  refine zg_sld X hX hbl hbA (i := i + 1) (by omega) (by omega) dL_law_1233 ?_
  refine zg_aload_n X dL_law_1234 rfl ?_
  refine zg_lawS X (k_L_openCampaign l hfl D adC T σ hV (xs (i + 1)) aL f) (lh_S gL_law_L_openCampaign) rfl rfl rfl qd_L_openCampaign rfl ⟨Nat.le_of_ble_eq_true rfl, Nat.le_of_ble_eq_true rfl⟩ rfl (Nat.le_of_ble_eq_true rfl) ⟨by show _ ≤ 603072; omega, by show _ ≤ 7215210; omega⟩ dL_law_1235 (fun v u f1 hl => ?_)
  refine zg_istore X dL_law_1238 (by decide) ?_
  refine zg_aload_n X dL_law_1240 rfl ?_
  refine zg_aload_n X dL_law_1241 rfl ?_
  refine zg_iload X dL_law_1242 rfl ?_
  refine zg_iconst X (v := nI 1) dL_law_1244 (by decide) ?_
  refine zg_iadd X dL_law_1245 ?_
  refine zg_top (lw_add i 1) ?_
  refine zg_sld X hX hbl hbA (i := i + 1) (by omega) (by omega) dL_law_1246 ?_
  refine zg_lawMi X (k_X7_openCampaign l D adM T σ hV.1.1.1 (xs (i + 1)) hV.2) (lh_m gL_law_X7_openCampaign) rfl rfl rfl qv_X7_openCampaign rfl ⟨Nat.le_of_ble_eq_true rfl, Nat.le_of_ble_eq_true rfl⟩ rfl (Nat.le_of_ble_eq_true rfl) ⟨by show _ ≤ 603072; omega, by show _ ≤ 7215210; omega⟩ dL_law_1247 (fun b1 w1 h1 => ?_)
  obtain ⟨t1, hm, rfl⟩ := h1
  refine ⟨t1, rfl, ?_⟩
  obtain ⟨e8, hf0, hC0, hVt⟩ := lw_agree (by decide +kernel) (fun v0 s0 h => zV_openCampaign hV h) hV hl hm
  have hCC : wC adC T u = wC adC T t1 := hC0 adC T
  refine zg_istore X dL_law_1250 (by decide) ?_
  refine zg_aload_n X dL_law_1252 rfl ?_
  refine zg_lawMi X (k_X7_thrown l D adM T t1) (lh_m gL_law_X7_thrown) rfl rfl rfl qv_X7_thrown rfl ⟨Nat.le_of_ble_eq_true rfl, Nat.le_of_ble_eq_true rfl⟩ rfl (Nat.le_of_ble_eq_true rfl) ⟨by show _ ≤ 603072; omega, by show _ ≤ 7215210; omega⟩ dL_law_1253 (fun b2 w2 h2 => ?_)
  obtain ⟨rfl, rfl⟩ := h2
  refine ⟨t1, rfl, ?_⟩
  refine zg_iload X dL_law_1256 rfl ?_
  refine zg_icmp_eq X dL_law_1258 (tgt := 1263) (by decide) (fun _ => ?_) (fun c9 => absurd e8 c9)
  refine zg_iload X dL_law_1263 rfl ?_
  refine zg_if_ne X dL_law_1265 (tgt := 1280) (by decide) (fun _ => ?_) (fun cv => ?_)
  · skip
    exact zg_goto X dL_law_1280 (tgt := 3268) (by decide) (lw_k ⟨rfl, rfl, rfl, rfl, rfl, rfl, trivial⟩ hCC (by omega) (by omega) (k t1 f1 g hVt))
  · skip
    refine zg_aload_n X dL_law_1268 rfl ?_
    refine zg_iconst X (v := 0) dL_law_1269 (by decide) ?_
    refine zg_lald X (q0 := 55) (t0 := 3) (n := 1) (f := f1) rfl rfl (vp_in_nI (n := 0) (N := 1) (by decide) (by decide)) dL_law_1270 ?_
    refine zg_iload X dL_law_1271 rfl ?_
    refine zg_i2l X dL_law_1273 ?_
    refine zg_lcmp X dL_law_1274 ?_
    refine zg_if_eq X dL_law_1275 (tgt := 1280) (by decide) (fun _ => ?_) (fun c9 => absurd (lw_cmp (hf0 cv)) c9)
    exact zg_goto X dL_law_1280 (tgt := 3268) (by decide) (lw_k ⟨rfl, rfl, rfl, rfl, rfl, rfl, trivial⟩ hCC (by omega) (by omega) (k t1 f1 g hVt))
set_option maxHeartbeats 4000000 in
theorem lcase_15 (X : zC p s m #[Value.ref b] meth c cL_law 9 (wsLR ++ lwH) RL D (zT T) A) (hfl : l.stackTraces = false) (hX : va_X b L xs s s.heap) (hbl : b < s.heap.size) (hbA : ¬ A b) (hL : L ≤ 2048) (hi : i + 4 ≤ L) (hV : zV σ) (hc : cells + 4 ≤ 603072) (hs : slots + 24 ≤ 7215210) (k : ∀ (t : ZS) (f' : Nat → Int64) (g' : Nat → UInt64), zV t → zG p l e room_1 s m #[Value.ref b] below meth c D 9 A (cells + 4) (slots + 24) Q (wL adC adM aL aD T t t f' g') 3268 (lw0 b adC adM aL aD i) []) : zG p l e room_1 s m #[Value.ref b] below meth c D 9 A cells slots Q (wL adC adM aL aD T σ σ f g) 1283 (lw0 b adC adM aL aD i) [] := by
  refine zg_aload_n X dL_law_1283 rfl ?_
  refine zg_aload_n X dL_law_1284 rfl ?_
  refine zg_iload X dL_law_1285 rfl ?_
  refine zg_iconst X (v := nI 1) dL_law_1287 (by decide) ?_
  refine zg_iadd X dL_law_1288 ?_
  refine zg_top (lw_add i 1) ?_
  refine zg_sld X hX hbl hbA (i := i + 1) (by omega) (by omega) dL_law_1289 ?_
  refine zg_aload_n X dL_law_1290 rfl ?_
  refine zg_iload X dL_law_1291 rfl ?_
  refine zg_iconst X (v := nI 2) dL_law_1293 (by decide) ?_
  refine zg_iadd X dL_law_1294 ?_
  refine zg_top (lw_add i 2) ?_
  refine zg_sld X hX hbl hbA (i := i + 2) (by omega) (by omega) dL_law_1295 ?_
  refine zg_aload_n X dL_law_1296 rfl ?_
  refine zg_iload X dL_law_1297 rfl ?_
  refine zg_iconst X (v := nI 3) dL_law_1299 (by decide) ?_
  refine zg_iadd X dL_law_1300 ?_
  refine zg_top (lw_add i 3) ?_
  refine zg_sld X hX hbl hbA (i := i + 3) (by omega) (by omega) dL_law_1301 ?_
  refine zg_i2c X dL_law_1302 rfl ?_
  refine zg_aload_n X dL_law_1303 rfl ?_
  refine zg_lawS X (k_L_answer l hfl D adC T σ hV (xs (i + 1)) (xs (i + 2)) ((xs (i + 3)).toUInt32 % 65536).toInt32 aL f) (lh_S gL_law_L_answer) rfl rfl rfl qd_L_answer rfl ⟨Nat.le_of_ble_eq_true rfl, Nat.le_of_ble_eq_true rfl⟩ rfl (Nat.le_of_ble_eq_true rfl) ⟨by show _ ≤ 603072; omega, by show _ ≤ 7215210; omega⟩ dL_law_1304 (fun v u f1 hl => ?_)
  refine zg_istore X dL_law_1307 (by decide) ?_
  refine zg_aload_n X dL_law_1309 rfl ?_
  refine zg_aload_n X dL_law_1310 rfl ?_
  refine zg_iload X dL_law_1311 rfl ?_
  refine zg_iconst X (v := nI 1) dL_law_1313 (by decide) ?_
  refine zg_iadd X dL_law_1314 ?_
  refine zg_top (lw_add i 1) ?_
  refine zg_sld X hX hbl hbA (i := i + 1) (by omega) (by omega) dL_law_1315 ?_
  refine zg_aload_n X dL_law_1316 rfl ?_
  refine zg_iload X dL_law_1317 rfl ?_
  refine zg_iconst X (v := nI 2) dL_law_1319 (by decide) ?_
  refine zg_iadd X dL_law_1320 ?_
  refine zg_top (lw_add i 2) ?_
  refine zg_sld X hX hbl hbA (i := i + 2) (by omega) (by omega) dL_law_1321 ?_
  refine zg_aload_n X dL_law_1322 rfl ?_
  refine zg_iload X dL_law_1323 rfl ?_
  refine zg_iconst X (v := nI 3) dL_law_1325 (by decide) ?_
  refine zg_iadd X dL_law_1326 ?_
  refine zg_top (lw_add i 3) ?_
  refine zg_sld X hX hbl hbA (i := i + 3) (by omega) (by omega) dL_law_1327 ?_
  refine zg_i2c X dL_law_1328 rfl ?_
  refine zg_lawMi X (k_X7_answer l D adM T σ hV.1.1.1 (xs (i + 1)) (xs (i + 2)) ((xs (i + 3)).toUInt32 % 65536).toInt32 hV.1.1.2.1 hV.1.1.2.2 hV.2) (lh_m gL_law_X7_answer) rfl rfl rfl qv_X7_answer rfl ⟨Nat.le_of_ble_eq_true rfl, Nat.le_of_ble_eq_true rfl⟩ rfl (Nat.le_of_ble_eq_true rfl) ⟨by show _ ≤ 603072; omega, by show _ ≤ 7215210; omega⟩ dL_law_1329 (fun b1 w1 h1 => ?_)
  obtain ⟨t1, hm, rfl⟩ := h1
  refine ⟨t1, rfl, ?_⟩
  obtain ⟨e8, hf0, hC0, hVt⟩ := lw_agree (by decide +kernel) (fun v0 s0 h => zV_answer hV h) hV hl hm
  have hCC : wC adC T u = wC adC T t1 := hC0 adC T
  refine zg_istore X dL_law_1332 (by decide) ?_
  refine zg_aload_n X dL_law_1334 rfl ?_
  refine zg_lawMi X (k_X7_thrown l D adM T t1) (lh_m gL_law_X7_thrown) rfl rfl rfl qv_X7_thrown rfl ⟨Nat.le_of_ble_eq_true rfl, Nat.le_of_ble_eq_true rfl⟩ rfl (Nat.le_of_ble_eq_true rfl) ⟨by show _ ≤ 603072; omega, by show _ ≤ 7215210; omega⟩ dL_law_1335 (fun b2 w2 h2 => ?_)
  obtain ⟨rfl, rfl⟩ := h2
  refine ⟨t1, rfl, ?_⟩
  refine zg_iload X dL_law_1338 rfl ?_
  refine zg_icmp_eq X dL_law_1340 (tgt := 1345) (by decide) (fun _ => ?_) (fun c9 => absurd e8 c9)
  refine zg_iload X dL_law_1345 rfl ?_
  refine zg_if_ne X dL_law_1347 (tgt := 1362) (by decide) (fun _ => ?_) (fun cv => ?_)
  · skip
    exact zg_goto X dL_law_1362 (tgt := 3268) (by decide) (lw_k ⟨rfl, rfl, rfl, rfl, rfl, rfl, trivial⟩ hCC (by omega) (by omega) (k t1 f1 g hVt))
  · skip
    refine zg_aload_n X dL_law_1350 rfl ?_
    refine zg_iconst X (v := 0) dL_law_1351 (by decide) ?_
    refine zg_lald X (q0 := 55) (t0 := 3) (n := 1) (f := f1) rfl rfl (vp_in_nI (n := 0) (N := 1) (by decide) (by decide)) dL_law_1352 ?_
    refine zg_iload X dL_law_1353 rfl ?_
    refine zg_i2l X dL_law_1355 ?_
    refine zg_lcmp X dL_law_1356 ?_
    refine zg_if_eq X dL_law_1357 (tgt := 1362) (by decide) (fun _ => ?_) (fun c9 => absurd (lw_cmp (hf0 cv)) c9)
    exact zg_goto X dL_law_1362 (tgt := 3268) (by decide) (lw_k ⟨rfl, rfl, rfl, rfl, rfl, rfl, trivial⟩ hCC (by omega) (by omega) (k t1 f1 g hVt))
set_option maxHeartbeats 4000000 in
theorem lcase_16 (X : zC p s m #[Value.ref b] meth c cL_law 9 (wsLR ++ lwH) RL D (zT T) A) (hfl : l.stackTraces = false) (hX : va_X b L xs s s.heap) (hbl : b < s.heap.size) (hbA : ¬ A b) (hL : L ≤ 2048) (hi : i + 4 ≤ L) (hV : zV σ) (hc : cells + 4 ≤ 603072) (hs : slots + 24 ≤ 7215210) (k : ∀ (t : ZS) (f' : Nat → Int64) (g' : Nat → UInt64), zV t → zG p l e room_1 s m #[Value.ref b] below meth c D 9 A (cells + 4) (slots + 24) Q (wL adC adM aL aD T t t f' g') 3268 (lw0 b adC adM aL aD i) []) : zG p l e room_1 s m #[Value.ref b] below meth c D 9 A cells slots Q (wL adC adM aL aD T σ σ f g) 1365 (lw0 b adC adM aL aD i) [] := by
  refine zg_aload_n X dL_law_1365 rfl ?_
  refine zg_lawXi X (k_X6_people l D adC T σ) (lh_m gL_law_X6_people) rfl rfl rfl qv_X6_people rfl ⟨Nat.le_of_ble_eq_true rfl, Nat.le_of_ble_eq_true rfl⟩ rfl (Nat.le_of_ble_eq_true rfl) ⟨by show _ ≤ 603072; omega, by show _ ≤ 7215210; omega⟩ dL_law_1366 ?_
  refine zg_aload_n X dL_law_1369 rfl ?_
  refine zg_lawMi X (k_X7_people l D adM T σ) (lh_m gL_law_X7_people) rfl rfl rfl qv_X7_people rfl ⟨Nat.le_of_ble_eq_true rfl, Nat.le_of_ble_eq_true rfl⟩ rfl (Nat.le_of_ble_eq_true rfl) ⟨by show _ ≤ 603072; omega, by show _ ≤ 7215210; omega⟩ dL_law_1370 (fun b1 w1 h1 => ?_)
  obtain ⟨e1, rfl⟩ := h1
  refine ⟨uN σ 8 0, rfl, ?_⟩
  have hCC : wC adC T σ = wC adC T (uN σ 8 0) := (wC_ovl ovl_8).symm
  have hVt : zV (uN σ 8 0) := zV_ovl ovl_8 rfl hV
  exact zg_icmp_eq X dL_law_1373 (tgt := 3268) (by decide) (fun _ => lw_k ⟨rfl, rfl, rfl, rfl, rfl, rfl, trivial⟩ hCC (by omega) (by omega) (k (uN σ 8 0) f g hVt)) (fun c9 => absurd e1.symm c9)
set_option maxHeartbeats 4000000 in
theorem lcase_17 (X : zC p s m #[Value.ref b] meth c cL_law 9 (wsLR ++ lwH) RL D (zT T) A) (hfl : l.stackTraces = false) (hX : va_X b L xs s s.heap) (hbl : b < s.heap.size) (hbA : ¬ A b) (hL : L ≤ 2048) (hi : i + 4 ≤ L) (hV : zV σ) (hc : cells + 4 ≤ 603072) (hs : slots + 24 ≤ 7215210) (k : ∀ (t : ZS) (f' : Nat → Int64) (g' : Nat → UInt64), zV t → zG p l e room_1 s m #[Value.ref b] below meth c D 9 A (cells + 4) (slots + 24) Q (wL adC adM aL aD T t t f' g') 3268 (lw0 b adC adM aL aD i) []) : zG p l e room_1 s m #[Value.ref b] below meth c D 9 A cells slots Q (wL adC adM aL aD T σ σ f g) 1378 (lw0 b adC adM aL aD i) [] := by
  refine zg_aload_n X dL_law_1378 rfl ?_
  refine zg_lawXi X (k_X6_day l D adC T σ) (lh_m gL_law_X6_day) rfl rfl rfl qv_X6_day rfl ⟨Nat.le_of_ble_eq_true rfl, Nat.le_of_ble_eq_true rfl⟩ rfl (Nat.le_of_ble_eq_true rfl) ⟨by show _ ≤ 603072; omega, by show _ ≤ 7215210; omega⟩ dL_law_1379 ?_
  refine zg_aload_n X dL_law_1382 rfl ?_
  refine zg_lawMi X (k_X7_day l D adM T σ) (lh_m gL_law_X7_day) rfl rfl rfl qv_X7_day rfl ⟨Nat.le_of_ble_eq_true rfl, Nat.le_of_ble_eq_true rfl⟩ rfl (Nat.le_of_ble_eq_true rfl) ⟨by show _ ≤ 603072; omega, by show _ ≤ 7215210; omega⟩ dL_law_1383 (fun b1 w1 h1 => ?_)
  obtain ⟨e1, rfl⟩ := h1
  refine ⟨uN σ 8 0, rfl, ?_⟩
  have hCC : wC adC T σ = wC adC T (uN σ 8 0) := (wC_ovl ovl_8).symm
  have hVt : zV (uN σ 8 0) := zV_ovl ovl_8 rfl hV
  exact zg_icmp_eq X dL_law_1386 (tgt := 3268) (by decide) (fun _ => lw_k ⟨rfl, rfl, rfl, rfl, rfl, rfl, trivial⟩ hCC (by omega) (by omega) (k (uN σ 8 0) f g hVt)) (fun c9 => absurd e1.symm c9)
set_option maxHeartbeats 4000000 in
theorem lcase_18 (X : zC p s m #[Value.ref b] meth c cL_law 9 (wsLR ++ lwH) RL D (zT T) A) (hfl : l.stackTraces = false) (hX : va_X b L xs s s.heap) (hbl : b < s.heap.size) (hbA : ¬ A b) (hL : L ≤ 2048) (hi : i + 4 ≤ L) (hV : zV σ) (hc : cells + 4 ≤ 603072) (hs : slots + 24 ≤ 7215210) (k : ∀ (t : ZS) (f' : Nat → Int64) (g' : Nat → UInt64), zV t → zG p l e room_1 s m #[Value.ref b] below meth c D 9 A (cells + 4) (slots + 24) Q (wL adC adM aL aD T t t f' g') 3268 (lw0 b adC adM aL aD i) []) : zG p l e room_1 s m #[Value.ref b] below meth c D 9 A cells slots Q (wL adC adM aL aD T σ σ f g) 1391 (lw0 b adC adM aL aD i) [] := by
  refine zg_aload_n X dL_law_1391 rfl ?_
  refine zg_aload_n X dL_law_1392 rfl ?_
  refine zg_iload X dL_law_1393 rfl ?_
  refine zg_iconst X (v := nI 1) dL_law_1395 (by decide) ?_
  refine zg_iadd X dL_law_1396 ?_
  refine zg_top (lw_add i 1) ?_
  refine zg_sld X hX hbl hbA (i := i + 1) (by omega) (by omega) dL_law_1397 ?_
  refine zg_aload_n X dL_law_1398 rfl ?_
  refine zg_lawS X (k_L_standIn l hfl D adC T σ hV (xs (i + 1)) aL f) (lh_S gL_law_L_standIn) rfl rfl rfl qd_L_standIn rfl ⟨Nat.le_of_ble_eq_true rfl, Nat.le_of_ble_eq_true rfl⟩ rfl (Nat.le_of_ble_eq_true rfl) ⟨by show _ ≤ 603072; omega, by show _ ≤ 7215210; omega⟩ dL_law_1399 (fun v u f1 hl => ?_)
  refine zg_istore X dL_law_1402 (by decide) ?_
  refine zg_aload_n X dL_law_1404 rfl ?_
  refine zg_aload_n X dL_law_1405 rfl ?_
  refine zg_iload X dL_law_1406 rfl ?_
  refine zg_iconst X (v := nI 1) dL_law_1408 (by decide) ?_
  refine zg_iadd X dL_law_1409 ?_
  refine zg_top (lw_add i 1) ?_
  refine zg_sld X hX hbl hbA (i := i + 1) (by omega) (by omega) dL_law_1410 ?_
  refine zg_lawMi X (k_X7_standIn l D adM T σ hV.1.1.1 (xs (i + 1))) (lh_m gL_law_X7_standIn) rfl rfl rfl qv_X7_standIn rfl ⟨Nat.le_of_ble_eq_true rfl, Nat.le_of_ble_eq_true rfl⟩ rfl (Nat.le_of_ble_eq_true rfl) ⟨by show _ ≤ 603072; omega, by show _ ≤ 7215210; omega⟩ dL_law_1411 (fun b1 w1 h1 => ?_)
  obtain ⟨t1, hm, rfl⟩ := h1
  refine ⟨t1, rfl, ?_⟩
  obtain ⟨e8, hf0, hC0, hVt⟩ := lw_agree (by decide +kernel) (fun v0 s0 h => by rw [rd_standIn h]; exact hV) hV hl hm
  have hCC : wC adC T u = wC adC T t1 := hC0 adC T
  refine zg_istore X dL_law_1414 (by decide) ?_
  refine zg_aload_n X dL_law_1416 rfl ?_
  refine zg_lawMi X (k_X7_thrown l D adM T t1) (lh_m gL_law_X7_thrown) rfl rfl rfl qv_X7_thrown rfl ⟨Nat.le_of_ble_eq_true rfl, Nat.le_of_ble_eq_true rfl⟩ rfl (Nat.le_of_ble_eq_true rfl) ⟨by show _ ≤ 603072; omega, by show _ ≤ 7215210; omega⟩ dL_law_1417 (fun b2 w2 h2 => ?_)
  obtain ⟨rfl, rfl⟩ := h2
  refine ⟨t1, rfl, ?_⟩
  refine zg_iload X dL_law_1420 rfl ?_
  refine zg_icmp_eq X dL_law_1422 (tgt := 1427) (by decide) (fun _ => ?_) (fun c9 => absurd e8 c9)
  refine zg_iload X dL_law_1427 rfl ?_
  refine zg_if_ne X dL_law_1429 (tgt := 1444) (by decide) (fun _ => ?_) (fun cv => ?_)
  · skip
    exact zg_goto X dL_law_1444 (tgt := 3268) (by decide) (lw_k ⟨rfl, rfl, rfl, rfl, rfl, rfl, trivial⟩ hCC (by omega) (by omega) (k t1 f1 g hVt))
  · skip
    refine zg_aload_n X dL_law_1432 rfl ?_
    refine zg_iconst X (v := 0) dL_law_1433 (by decide) ?_
    refine zg_lald X (q0 := 55) (t0 := 3) (n := 1) (f := f1) rfl rfl (vp_in_nI (n := 0) (N := 1) (by decide) (by decide)) dL_law_1434 ?_
    refine zg_iload X dL_law_1435 rfl ?_
    refine zg_i2l X dL_law_1437 ?_
    refine zg_lcmp X dL_law_1438 ?_
    refine zg_if_eq X dL_law_1439 (tgt := 1444) (by decide) (fun _ => ?_) (fun c9 => absurd (lw_cmp (hf0 cv)) c9)
    exact zg_goto X dL_law_1444 (tgt := 3268) (by decide) (lw_k ⟨rfl, rfl, rfl, rfl, rfl, rfl, trivial⟩ hCC (by omega) (by omega) (k t1 f1 g hVt))
set_option maxHeartbeats 4000000 in
theorem lcase_19 (X : zC p s m #[Value.ref b] meth c cL_law 9 (wsLR ++ lwH) RL D (zT T) A) (hfl : l.stackTraces = false) (hX : va_X b L xs s s.heap) (hbl : b < s.heap.size) (hbA : ¬ A b) (hL : L ≤ 2048) (hi : i + 4 ≤ L) (hV : zV σ) (hc : cells + 4 ≤ 603072) (hs : slots + 24 ≤ 7215210) (k : ∀ (t : ZS) (f' : Nat → Int64) (g' : Nat → UInt64), zV t → zG p l e room_1 s m #[Value.ref b] below meth c D 9 A (cells + 4) (slots + 24) Q (wL adC adM aL aD T t t f' g') 3268 (lw0 b adC adM aL aD i) []) : zG p l e room_1 s m #[Value.ref b] below meth c D 9 A cells slots Q (wL adC adM aL aD T σ σ f g) 1447 (lw0 b adC adM aL aD i) [] := by
  refine zg_aload_n X dL_law_1447 rfl ?_
  refine zg_aload_n X dL_law_1448 rfl ?_
  refine zg_iload X dL_law_1449 rfl ?_
  refine zg_iconst X (v := nI 1) dL_law_1451 (by decide) ?_
  refine zg_iadd X dL_law_1452 ?_
  refine zg_top (lw_add i 1) ?_
  refine zg_sld X hX hbl hbA (i := i + 1) (by omega) (by omega) dL_law_1453 ?_
  refine zg_aload_n X dL_law_1454 rfl ?_
  refine zg_iload X dL_law_1455 rfl ?_
  refine zg_iconst X (v := nI 2) dL_law_1457 (by decide) ?_
  refine zg_iadd X dL_law_1458 ?_
  refine zg_top (lw_add i 2) ?_
  refine zg_sld X hX hbl hbA (i := i + 2) (by omega) (by omega) dL_law_1459 ?_
  refine zg_aload_n X dL_law_1460 rfl ?_
  refine zg_lawS X (k_L_isMember l hfl D adC T σ hV (xs (i + 1)) (xs (i + 2)) aL f) (lh_S gL_law_L_isMember) rfl rfl rfl qd_L_isMember rfl ⟨Nat.le_of_ble_eq_true rfl, Nat.le_of_ble_eq_true rfl⟩ rfl (Nat.le_of_ble_eq_true rfl) ⟨by show _ ≤ 603072; omega, by show _ ≤ 7215210; omega⟩ dL_law_1461 (fun v u f1 hl => ?_)
  refine zg_istore X dL_law_1464 (by decide) ?_
  refine zg_aload_n X dL_law_1466 rfl ?_
  refine zg_aload_n X dL_law_1467 rfl ?_
  refine zg_iload X dL_law_1468 rfl ?_
  refine zg_iconst X (v := nI 1) dL_law_1470 (by decide) ?_
  refine zg_iadd X dL_law_1471 ?_
  refine zg_top (lw_add i 1) ?_
  refine zg_sld X hX hbl hbA (i := i + 1) (by omega) (by omega) dL_law_1472 ?_
  refine zg_aload_n X dL_law_1473 rfl ?_
  refine zg_iload X dL_law_1474 rfl ?_
  refine zg_iconst X (v := nI 2) dL_law_1476 (by decide) ?_
  refine zg_iadd X dL_law_1477 ?_
  refine zg_top (lw_add i 2) ?_
  refine zg_sld X hX hbl hbA (i := i + 2) (by omega) (by omega) dL_law_1478 ?_
  refine zg_lawMi X (k_X7_isMember l D adM T σ hV.1.1.1 (xs (i + 1)) (xs (i + 2))) (lh_m gL_law_X7_isMember) rfl rfl rfl qv_X7_isMember rfl ⟨Nat.le_of_ble_eq_true rfl, Nat.le_of_ble_eq_true rfl⟩ rfl (Nat.le_of_ble_eq_true rfl) ⟨by show _ ≤ 603072; omega, by show _ ≤ 7215210; omega⟩ dL_law_1479 (fun b1 w1 h1 => ?_)
  obtain ⟨t1, hm, rfl⟩ := h1
  refine ⟨t1, rfl, ?_⟩
  obtain ⟨e8, hf0, hC0, hVt⟩ := lw_agree (by decide +kernel) (fun v0 s0 h => by rw [rd_isMember h]; exact hV) hV hl hm
  have hCC : wC adC T u = wC adC T t1 := hC0 adC T
  refine zg_istore X dL_law_1482 (by decide) ?_
  refine zg_aload_n X dL_law_1484 rfl ?_
  refine zg_lawMi X (k_X7_thrown l D adM T t1) (lh_m gL_law_X7_thrown) rfl rfl rfl qv_X7_thrown rfl ⟨Nat.le_of_ble_eq_true rfl, Nat.le_of_ble_eq_true rfl⟩ rfl (Nat.le_of_ble_eq_true rfl) ⟨by show _ ≤ 603072; omega, by show _ ≤ 7215210; omega⟩ dL_law_1485 (fun b2 w2 h2 => ?_)
  obtain ⟨rfl, rfl⟩ := h2
  refine ⟨t1, rfl, ?_⟩
  refine zg_iload X dL_law_1488 rfl ?_
  refine zg_icmp_eq X dL_law_1490 (tgt := 1495) (by decide) (fun _ => ?_) (fun c9 => absurd e8 c9)
  refine zg_iload X dL_law_1495 rfl ?_
  refine zg_if_ne X dL_law_1497 (tgt := 1519) (by decide) (fun _ => ?_) (fun cv => ?_)
  · skip
    exact zg_goto X dL_law_1519 (tgt := 3268) (by decide) (lw_k ⟨rfl, rfl, rfl, rfl, rfl, rfl, trivial⟩ hCC (by omega) (by omega) (k t1 f1 g hVt))
  · skip
    refine zg_aload_n X dL_law_1500 rfl ?_
    refine zg_iconst X (v := 0) dL_law_1501 (by decide) ?_
    refine zg_lald X (q0 := 55) (t0 := 3) (n := 1) (f := f1) rfl rfl (vp_in_nI (n := 0) (N := 1) (by decide) (by decide)) dL_law_1502 ?_
    refine zg_iload X dL_law_1503 rfl ?_
    refine zg_if_eq X dL_law_1505 (tgt := 1512) (by decide) (fun cz => ?_) (fun cz => ?_)
    · skip
      refine zg_lconst X (v := 0) dL_law_1512 rfl ?_
      refine zg_lcmp X dL_law_1513 ?_
      refine zg_if_eq X dL_law_1514 (tgt := 1519) (by decide) (fun _ => ?_) (fun c9 => absurd (lw_cmp ((hf0 cv).trans (if_pos cz))) c9)
      exact zg_goto X dL_law_1519 (tgt := 3268) (by decide) (lw_k ⟨rfl, rfl, rfl, rfl, rfl, rfl, trivial⟩ hCC (by omega) (by omega) (k t1 f1 g hVt))
    · skip
      refine zg_lconst X (v := 1) dL_law_1508 rfl ?_
      refine zg_goto X dL_law_1509 (tgt := 1513) (by decide) ?_
      refine zg_lcmp X dL_law_1513 ?_
      refine zg_if_eq X dL_law_1514 (tgt := 1519) (by decide) (fun _ => ?_) (fun c9 => absurd (lw_cmp ((hf0 cv).trans (if_neg cz))) c9)
      exact zg_goto X dL_law_1519 (tgt := 3268) (by decide) (lw_k ⟨rfl, rfl, rfl, rfl, rfl, rfl, trivial⟩ hCC (by omega) (by omega) (k t1 f1 g hVt))
set_option maxHeartbeats 4000000 in
theorem lcase_20 (X : zC p s m #[Value.ref b] meth c cL_law 9 (wsLR ++ lwH) RL D (zT T) A) (hfl : l.stackTraces = false) (hX : va_X b L xs s s.heap) (hbl : b < s.heap.size) (hbA : ¬ A b) (hL : L ≤ 2048) (hi : i + 4 ≤ L) (hV : zV σ) (hc : cells + 4 ≤ 603072) (hs : slots + 24 ≤ 7215210) (k : ∀ (t : ZS) (f' : Nat → Int64) (g' : Nat → UInt64), zV t → zG p l e room_1 s m #[Value.ref b] below meth c D 9 A (cells + 4) (slots + 24) Q (wL adC adM aL aD T t t f' g') 3268 (lw0 b adC adM aL aD i) []) : zG p l e room_1 s m #[Value.ref b] below meth c D 9 A cells slots Q (wL adC adM aL aD T σ σ f g) 1522 (lw0 b adC adM aL aD i) [] := by
  refine zg_aload_n X dL_law_1522 rfl ?_
  refine zg_aload_n X dL_law_1523 rfl ?_
  refine zg_iload X dL_law_1524 rfl ?_
  refine zg_iconst X (v := nI 1) dL_law_1526 (by decide) ?_
  refine zg_iadd X dL_law_1527 ?_
  refine zg_top (lw_add i 1) ?_
  refine zg_sld X hX hbl hbA (i := i + 1) (by omega) (by omega) dL_law_1528 ?_
  refine zg_aload_n X dL_law_1529 rfl ?_
  refine zg_lawS X (k_L_members l hfl D adC T σ hV (xs (i + 1)) aL f) (lh_S gL_law_L_members) rfl rfl rfl qd_L_members rfl ⟨Nat.le_of_ble_eq_true rfl, Nat.le_of_ble_eq_true rfl⟩ rfl (Nat.le_of_ble_eq_true rfl) ⟨by show _ ≤ 603072; omega, by show _ ≤ 7215210; omega⟩ dL_law_1530 (fun v u f1 hl => ?_)
  refine zg_istore X dL_law_1533 (by decide) ?_
  refine zg_aload_n X dL_law_1535 rfl ?_
  refine zg_aload_n X dL_law_1536 rfl ?_
  refine zg_iload X dL_law_1537 rfl ?_
  refine zg_iconst X (v := nI 1) dL_law_1539 (by decide) ?_
  refine zg_iadd X dL_law_1540 ?_
  refine zg_top (lw_add i 1) ?_
  refine zg_sld X hX hbl hbA (i := i + 1) (by omega) (by omega) dL_law_1541 ?_
  refine zg_lawMi X (k_X7_members l D adM T σ hV.1.1.1 (xs (i + 1))) (lh_m gL_law_X7_members) rfl rfl rfl qv_X7_members rfl ⟨Nat.le_of_ble_eq_true rfl, Nat.le_of_ble_eq_true rfl⟩ rfl (Nat.le_of_ble_eq_true rfl) ⟨by show _ ≤ 603072; omega, by show _ ≤ 7215210; omega⟩ dL_law_1542 (fun b1 w1 h1 => ?_)
  obtain ⟨t1, hm, rfl⟩ := h1
  refine ⟨t1, rfl, ?_⟩
  obtain ⟨e8, hf0, hC0, hVt⟩ := lw_agree (by decide +kernel) (fun v0 s0 h => by rw [rd_members h]; exact hV) hV hl hm
  have hCC : wC adC T u = wC adC T t1 := hC0 adC T
  refine zg_istore X dL_law_1545 (by decide) ?_
  refine zg_aload_n X dL_law_1547 rfl ?_
  refine zg_lawMi X (k_X7_thrown l D adM T t1) (lh_m gL_law_X7_thrown) rfl rfl rfl qv_X7_thrown rfl ⟨Nat.le_of_ble_eq_true rfl, Nat.le_of_ble_eq_true rfl⟩ rfl (Nat.le_of_ble_eq_true rfl) ⟨by show _ ≤ 603072; omega, by show _ ≤ 7215210; omega⟩ dL_law_1548 (fun b2 w2 h2 => ?_)
  obtain ⟨rfl, rfl⟩ := h2
  refine ⟨t1, rfl, ?_⟩
  refine zg_iload X dL_law_1551 rfl ?_
  refine zg_icmp_eq X dL_law_1553 (tgt := 1558) (by decide) (fun _ => ?_) (fun c9 => absurd e8 c9)
  refine zg_iload X dL_law_1558 rfl ?_
  refine zg_if_ne X dL_law_1560 (tgt := 1575) (by decide) (fun _ => ?_) (fun cv => ?_)
  · skip
    exact zg_goto X dL_law_1575 (tgt := 3268) (by decide) (lw_k ⟨rfl, rfl, rfl, rfl, rfl, rfl, trivial⟩ hCC (by omega) (by omega) (k t1 f1 g hVt))
  · skip
    refine zg_aload_n X dL_law_1563 rfl ?_
    refine zg_iconst X (v := 0) dL_law_1564 (by decide) ?_
    refine zg_lald X (q0 := 55) (t0 := 3) (n := 1) (f := f1) rfl rfl (vp_in_nI (n := 0) (N := 1) (by decide) (by decide)) dL_law_1565 ?_
    refine zg_iload X dL_law_1566 rfl ?_
    refine zg_i2l X dL_law_1568 ?_
    refine zg_lcmp X dL_law_1569 ?_
    refine zg_if_eq X dL_law_1570 (tgt := 1575) (by decide) (fun _ => ?_) (fun c9 => absurd (lw_cmp (hf0 cv)) c9)
    exact zg_goto X dL_law_1575 (tgt := 3268) (by decide) (lw_k ⟨rfl, rfl, rfl, rfl, rfl, rfl, trivial⟩ hCC (by omega) (by omega) (k t1 f1 g hVt))
set_option maxHeartbeats 4000000 in
theorem lcase_21 (X : zC p s m #[Value.ref b] meth c cL_law 9 (wsLR ++ lwH) RL D (zT T) A) (hfl : l.stackTraces = false) (hX : va_X b L xs s s.heap) (hbl : b < s.heap.size) (hbA : ¬ A b) (hL : L ≤ 2048) (hi : i + 4 ≤ L) (hV : zV σ) (hc : cells + 4 ≤ 603072) (hs : slots + 24 ≤ 7215210) (k : ∀ (t : ZS) (f' : Nat → Int64) (g' : Nat → UInt64), zV t → zG p l e room_1 s m #[Value.ref b] below meth c D 9 A (cells + 4) (slots + 24) Q (wL adC adM aL aD T t t f' g') 3268 (lw0 b adC adM aL aD i) []) : zG p l e room_1 s m #[Value.ref b] below meth c D 9 A cells slots Q (wL adC adM aL aD T σ σ f g) 1578 (lw0 b adC adM aL aD i) [] := by
  refine zg_aload_n X dL_law_1578 rfl ?_
  refine zg_aload_n X dL_law_1579 rfl ?_
  refine zg_iload X dL_law_1580 rfl ?_
  refine zg_iconst X (v := nI 1) dL_law_1582 (by decide) ?_
  refine zg_iadd X dL_law_1583 ?_
  refine zg_top (lw_add i 1) ?_
  refine zg_sld X hX hbl hbA (i := i + 1) (by omega) (by omega) dL_law_1584 ?_
  refine zg_aload_n X dL_law_1585 rfl ?_
  refine zg_iload X dL_law_1586 rfl ?_
  refine zg_iconst X (v := nI 2) dL_law_1588 (by decide) ?_
  refine zg_iadd X dL_law_1589 ?_
  refine zg_top (lw_add i 2) ?_
  refine zg_sld X hX hbl hbA (i := i + 2) (by omega) (by omega) dL_law_1590 ?_
  refine zg_aload_n X dL_law_1591 rfl ?_
  refine zg_lawS X (k_L_holds l hfl D adC T σ hV (xs (i + 1)) (xs (i + 2)) aL f) (lh_S gL_law_L_holds) rfl rfl rfl qd_L_holds rfl ⟨Nat.le_of_ble_eq_true rfl, Nat.le_of_ble_eq_true rfl⟩ rfl (Nat.le_of_ble_eq_true rfl) ⟨by show _ ≤ 603072; omega, by show _ ≤ 7215210; omega⟩ dL_law_1592 (fun v u f1 hl => ?_)
  refine zg_istore X dL_law_1595 (by decide) ?_
  refine zg_aload_n X dL_law_1597 rfl ?_
  refine zg_aload_n X dL_law_1598 rfl ?_
  refine zg_iload X dL_law_1599 rfl ?_
  refine zg_iconst X (v := nI 1) dL_law_1601 (by decide) ?_
  refine zg_iadd X dL_law_1602 ?_
  refine zg_top (lw_add i 1) ?_
  refine zg_sld X hX hbl hbA (i := i + 1) (by omega) (by omega) dL_law_1603 ?_
  refine zg_aload_n X dL_law_1604 rfl ?_
  refine zg_iload X dL_law_1605 rfl ?_
  refine zg_iconst X (v := nI 2) dL_law_1607 (by decide) ?_
  refine zg_iadd X dL_law_1608 ?_
  refine zg_top (lw_add i 2) ?_
  refine zg_sld X hX hbl hbA (i := i + 2) (by omega) (by omega) dL_law_1609 ?_
  refine zg_lawMi X (k_X7_holds l D adM T σ hV.1.1.1 (xs (i + 1)) (xs (i + 2))) (lh_m gL_law_X7_holds) rfl rfl rfl qv_X7_holds rfl ⟨Nat.le_of_ble_eq_true rfl, Nat.le_of_ble_eq_true rfl⟩ rfl (Nat.le_of_ble_eq_true rfl) ⟨by show _ ≤ 603072; omega, by show _ ≤ 7215210; omega⟩ dL_law_1610 (fun b1 w1 h1 => ?_)
  obtain ⟨-, t1, hm, rfl⟩ := h1
  refine ⟨t1, rfl, ?_⟩
  obtain ⟨e8, hf0, hC0, hVt⟩ := lw_agree (by decide +kernel) (fun v0 s0 h => by rw [rd_holds h]; exact hV) hV hl hm
  have hCC : wC adC T u = wC adC T t1 := hC0 adC T
  refine zg_istore X dL_law_1613 (by decide) ?_
  refine zg_aload_n X dL_law_1615 rfl ?_
  refine zg_lawMi X (k_X7_thrown l D adM T t1) (lh_m gL_law_X7_thrown) rfl rfl rfl qv_X7_thrown rfl ⟨Nat.le_of_ble_eq_true rfl, Nat.le_of_ble_eq_true rfl⟩ rfl (Nat.le_of_ble_eq_true rfl) ⟨by show _ ≤ 603072; omega, by show _ ≤ 7215210; omega⟩ dL_law_1616 (fun b2 w2 h2 => ?_)
  obtain ⟨rfl, rfl⟩ := h2
  refine ⟨t1, rfl, ?_⟩
  refine zg_iload X dL_law_1619 rfl ?_
  refine zg_icmp_eq X dL_law_1621 (tgt := 1626) (by decide) (fun _ => ?_) (fun c9 => absurd e8 c9)
  refine zg_iload X dL_law_1626 rfl ?_
  refine zg_if_ne X dL_law_1628 (tgt := 1650) (by decide) (fun _ => ?_) (fun cv => ?_)
  · skip
    exact zg_goto X dL_law_1650 (tgt := 3268) (by decide) (lw_k ⟨rfl, rfl, rfl, rfl, rfl, rfl, trivial⟩ hCC (by omega) (by omega) (k t1 f1 g hVt))
  · skip
    refine zg_aload_n X dL_law_1631 rfl ?_
    refine zg_iconst X (v := 0) dL_law_1632 (by decide) ?_
    refine zg_lald X (q0 := 55) (t0 := 3) (n := 1) (f := f1) rfl rfl (vp_in_nI (n := 0) (N := 1) (by decide) (by decide)) dL_law_1633 ?_
    refine zg_iload X dL_law_1634 rfl ?_
    refine zg_if_eq X dL_law_1636 (tgt := 1643) (by decide) (fun cz => ?_) (fun cz => ?_)
    · skip
      refine zg_lconst X (v := 0) dL_law_1643 rfl ?_
      refine zg_lcmp X dL_law_1644 ?_
      refine zg_if_eq X dL_law_1645 (tgt := 1650) (by decide) (fun _ => ?_) (fun c9 => absurd (lw_cmp ((hf0 cv).trans (if_pos cz))) c9)
      exact zg_goto X dL_law_1650 (tgt := 3268) (by decide) (lw_k ⟨rfl, rfl, rfl, rfl, rfl, rfl, trivial⟩ hCC (by omega) (by omega) (k t1 f1 g hVt))
    · skip
      refine zg_lconst X (v := 1) dL_law_1639 rfl ?_
      refine zg_goto X dL_law_1640 (tgt := 1644) (by decide) ?_
      refine zg_lcmp X dL_law_1644 ?_
      refine zg_if_eq X dL_law_1645 (tgt := 1650) (by decide) (fun _ => ?_) (fun c9 => absurd (lw_cmp ((hf0 cv).trans (if_neg cz))) c9)
      exact zg_goto X dL_law_1650 (tgt := 3268) (by decide) (lw_k ⟨rfl, rfl, rfl, rfl, rfl, rfl, trivial⟩ hCC (by omega) (by omega) (k t1 f1 g hVt))
set_option maxHeartbeats 4000000 in
theorem lcase_22 (X : zC p s m #[Value.ref b] meth c cL_law 9 (wsLR ++ lwH) RL D (zT T) A) (hfl : l.stackTraces = false) (hX : va_X b L xs s s.heap) (hbl : b < s.heap.size) (hbA : ¬ A b) (hL : L ≤ 2048) (hi : i + 4 ≤ L) (hV : zV σ) (hc : cells + 4 ≤ 603072) (hs : slots + 24 ≤ 7215210) (k : ∀ (t : ZS) (f' : Nat → Int64) (g' : Nat → UInt64), zV t → zG p l e room_1 s m #[Value.ref b] below meth c D 9 A (cells + 4) (slots + 24) Q (wL adC adM aL aD T t t f' g') 3268 (lw0 b adC adM aL aD i) []) : zG p l e room_1 s m #[Value.ref b] below meth c D 9 A cells slots Q (wL adC adM aL aD T σ σ f g) 1653 (lw0 b adC adM aL aD i) [] := by
  refine zg_aload_n X dL_law_1653 rfl ?_
  refine zg_aload_n X dL_law_1654 rfl ?_
  refine zg_iload X dL_law_1655 rfl ?_
  refine zg_iconst X (v := nI 1) dL_law_1657 (by decide) ?_
  refine zg_iadd X dL_law_1658 ?_
  refine zg_top (lw_add i 1) ?_
  refine zg_sld X hX hbl hbA (i := i + 1) (by omega) (by omega) dL_law_1659 ?_
  refine zg_aload_n X dL_law_1660 rfl ?_
  refine zg_iload X dL_law_1661 rfl ?_
  refine zg_iconst X (v := nI 2) dL_law_1663 (by decide) ?_
  refine zg_iadd X dL_law_1664 ?_
  refine zg_top (lw_add i 2) ?_
  refine zg_sld X hX hbl hbA (i := i + 2) (by omega) (by omega) dL_law_1665 ?_
  refine zg_aload_n X dL_law_1666 rfl ?_
  refine zg_lawS X (k_L_holdsByPaths l hfl D adC T σ hV (xs (i + 1)) (xs (i + 2)) aL f) (lh_S gL_law_L_holdsByPaths) rfl rfl rfl qd_L_holdsByPaths rfl ⟨Nat.le_of_ble_eq_true rfl, Nat.le_of_ble_eq_true rfl⟩ rfl (Nat.le_of_ble_eq_true rfl) ⟨by show _ ≤ 603072; omega, by show _ ≤ 7215210; omega⟩ dL_law_1667 (fun v u f1 hl => ?_)
  refine zg_istore X dL_law_1670 (by decide) ?_
  refine zg_aload_n X dL_law_1672 rfl ?_
  refine zg_aload_n X dL_law_1673 rfl ?_
  refine zg_iload X dL_law_1674 rfl ?_
  refine zg_iconst X (v := nI 1) dL_law_1676 (by decide) ?_
  refine zg_iadd X dL_law_1677 ?_
  refine zg_top (lw_add i 1) ?_
  refine zg_sld X hX hbl hbA (i := i + 1) (by omega) (by omega) dL_law_1678 ?_
  refine zg_aload_n X dL_law_1679 rfl ?_
  refine zg_iload X dL_law_1680 rfl ?_
  refine zg_iconst X (v := nI 2) dL_law_1682 (by decide) ?_
  refine zg_iadd X dL_law_1683 ?_
  refine zg_top (lw_add i 2) ?_
  refine zg_sld X hX hbl hbA (i := i + 2) (by omega) (by omega) dL_law_1684 ?_
  refine zg_lawMi X (k_X7_holdsByPaths l D adM T σ hV.1.1.1 (xs (i + 1)) (xs (i + 2)) (sp_hp hV.1.1.1 _ _)) (lh_m gL_law_X7_holdsByPaths) rfl rfl rfl qv_X7_holdsByPaths rfl ⟨Nat.le_of_ble_eq_true rfl, Nat.le_of_ble_eq_true rfl⟩ rfl (Nat.le_of_ble_eq_true rfl) ⟨by show _ ≤ 603072; omega, by show _ ≤ 7215210; omega⟩ dL_law_1685 (fun b1 w1 h1 => ?_)
  obtain ⟨t1, hm, rfl⟩ := h1
  refine ⟨t1, rfl, ?_⟩
  obtain ⟨e8, hf0, hC0, hVt⟩ := lw_agree (by decide +kernel) (fun v0 s0 h => by rw [rd_holdsByPaths h]; exact hV) hV hl hm
  have hCC : wC adC T u = wC adC T t1 := hC0 adC T
  refine zg_istore X dL_law_1688 (by decide) ?_
  refine zg_aload_n X dL_law_1690 rfl ?_
  refine zg_lawMi X (k_X7_thrown l D adM T t1) (lh_m gL_law_X7_thrown) rfl rfl rfl qv_X7_thrown rfl ⟨Nat.le_of_ble_eq_true rfl, Nat.le_of_ble_eq_true rfl⟩ rfl (Nat.le_of_ble_eq_true rfl) ⟨by show _ ≤ 603072; omega, by show _ ≤ 7215210; omega⟩ dL_law_1691 (fun b2 w2 h2 => ?_)
  obtain ⟨rfl, rfl⟩ := h2
  refine ⟨t1, rfl, ?_⟩
  refine zg_iload X dL_law_1694 rfl ?_
  refine zg_icmp_eq X dL_law_1696 (tgt := 1701) (by decide) (fun _ => ?_) (fun c9 => absurd e8 c9)
  refine zg_iload X dL_law_1701 rfl ?_
  refine zg_if_ne X dL_law_1703 (tgt := 1725) (by decide) (fun _ => ?_) (fun cv => ?_)
  · skip
    exact zg_goto X dL_law_1725 (tgt := 3268) (by decide) (lw_k ⟨rfl, rfl, rfl, rfl, rfl, rfl, trivial⟩ hCC (by omega) (by omega) (k t1 f1 g hVt))
  · skip
    refine zg_aload_n X dL_law_1706 rfl ?_
    refine zg_iconst X (v := 0) dL_law_1707 (by decide) ?_
    refine zg_lald X (q0 := 55) (t0 := 3) (n := 1) (f := f1) rfl rfl (vp_in_nI (n := 0) (N := 1) (by decide) (by decide)) dL_law_1708 ?_
    refine zg_iload X dL_law_1709 rfl ?_
    refine zg_if_eq X dL_law_1711 (tgt := 1718) (by decide) (fun cz => ?_) (fun cz => ?_)
    · skip
      refine zg_lconst X (v := 0) dL_law_1718 rfl ?_
      refine zg_lcmp X dL_law_1719 ?_
      refine zg_if_eq X dL_law_1720 (tgt := 1725) (by decide) (fun _ => ?_) (fun c9 => absurd (lw_cmp ((hf0 cv).trans (if_pos cz))) c9)
      exact zg_goto X dL_law_1725 (tgt := 3268) (by decide) (lw_k ⟨rfl, rfl, rfl, rfl, rfl, rfl, trivial⟩ hCC (by omega) (by omega) (k t1 f1 g hVt))
    · skip
      refine zg_lconst X (v := 1) dL_law_1714 rfl ?_
      refine zg_goto X dL_law_1715 (tgt := 1719) (by decide) ?_
      refine zg_lcmp X dL_law_1719 ?_
      refine zg_if_eq X dL_law_1720 (tgt := 1725) (by decide) (fun _ => ?_) (fun c9 => absurd (lw_cmp ((hf0 cv).trans (if_neg cz))) c9)
      exact zg_goto X dL_law_1725 (tgt := 3268) (by decide) (lw_k ⟨rfl, rfl, rfl, rfl, rfl, rfl, trivial⟩ hCC (by omega) (by omega) (k t1 f1 g hVt))
set_option maxHeartbeats 4000000 in
theorem lcase_23 (X : zC p s m #[Value.ref b] meth c cL_law 9 (wsLR ++ lwH) RL D (zT T) A) (hfl : l.stackTraces = false) (hX : va_X b L xs s s.heap) (hbl : b < s.heap.size) (hbA : ¬ A b) (hL : L ≤ 2048) (hi : i + 4 ≤ L) (hV : zV σ) (hc : cells + 4 ≤ 603072) (hs : slots + 24 ≤ 7215210) (k : ∀ (t : ZS) (f' : Nat → Int64) (g' : Nat → UInt64), zV t → zG p l e room_1 s m #[Value.ref b] below meth c D 9 A (cells + 4) (slots + 24) Q (wL adC adM aL aD T t t f' g') 3268 (lw0 b adC adM aL aD i) []) : zG p l e room_1 s m #[Value.ref b] below meth c D 9 A cells slots Q (wL adC adM aL aD T σ σ f g) 1728 (lw0 b adC adM aL aD i) [] := by
  refine zg_aload_n X dL_law_1728 rfl ?_
  refine zg_aload_n X dL_law_1729 rfl ?_
  refine zg_iload X dL_law_1730 rfl ?_
  refine zg_iconst X (v := nI 1) dL_law_1732 (by decide) ?_
  refine zg_iadd X dL_law_1733 ?_
  refine zg_top (lw_add i 1) ?_
  refine zg_sld X hX hbl hbA (i := i + 1) (by omega) (by omega) dL_law_1734 ?_
  refine zg_aload_n X dL_law_1735 rfl ?_
  refine zg_lawS X (k_L_rightsOf l hfl D adC T σ hV (xs (i + 1)) aL f) (lh_S gL_law_L_rightsOf) rfl rfl rfl qd_L_rightsOf rfl ⟨Nat.le_of_ble_eq_true rfl, Nat.le_of_ble_eq_true rfl⟩ rfl (Nat.le_of_ble_eq_true rfl) ⟨by show _ ≤ 603072; omega, by show _ ≤ 7215210; omega⟩ dL_law_1736 (fun v u f1 hl => ?_)
  refine zg_istore X dL_law_1739 (by decide) ?_
  refine zg_aload_n X dL_law_1741 rfl ?_
  refine zg_aload_n X dL_law_1742 rfl ?_
  refine zg_iload X dL_law_1743 rfl ?_
  refine zg_iconst X (v := nI 1) dL_law_1745 (by decide) ?_
  refine zg_iadd X dL_law_1746 ?_
  refine zg_top (lw_add i 1) ?_
  refine zg_sld X hX hbl hbA (i := i + 1) (by omega) (by omega) dL_law_1747 ?_
  refine zg_lawMi X (k_X7_rightsOf l D adM T σ hV.1.1.1 (xs (i + 1))) (lh_m gL_law_X7_rightsOf) rfl rfl rfl qv_X7_rightsOf rfl ⟨Nat.le_of_ble_eq_true rfl, Nat.le_of_ble_eq_true rfl⟩ rfl (Nat.le_of_ble_eq_true rfl) ⟨by show _ ≤ 603072; omega, by show _ ≤ 7215210; omega⟩ dL_law_1748 (fun b1 w1 h1 => ?_)
  obtain ⟨t1, hm, rfl⟩ := h1
  refine ⟨t1, rfl, ?_⟩
  obtain ⟨e8, hf0, hC0, hVt⟩ := lw_agree (by decide +kernel) (fun v0 s0 h => by rw [rd_rightsOf h]; exact hV) hV hl hm
  have hCC : wC adC T u = wC adC T t1 := hC0 adC T
  refine zg_istore X dL_law_1751 (by decide) ?_
  refine zg_aload_n X dL_law_1753 rfl ?_
  refine zg_lawMi X (k_X7_thrown l D adM T t1) (lh_m gL_law_X7_thrown) rfl rfl rfl qv_X7_thrown rfl ⟨Nat.le_of_ble_eq_true rfl, Nat.le_of_ble_eq_true rfl⟩ rfl (Nat.le_of_ble_eq_true rfl) ⟨by show _ ≤ 603072; omega, by show _ ≤ 7215210; omega⟩ dL_law_1754 (fun b2 w2 h2 => ?_)
  obtain ⟨rfl, rfl⟩ := h2
  refine ⟨t1, rfl, ?_⟩
  refine zg_iload X dL_law_1757 rfl ?_
  refine zg_icmp_eq X dL_law_1759 (tgt := 1764) (by decide) (fun _ => ?_) (fun c9 => absurd e8 c9)
  refine zg_iload X dL_law_1764 rfl ?_
  refine zg_if_ne X dL_law_1766 (tgt := 1781) (by decide) (fun _ => ?_) (fun cv => ?_)
  · skip
    exact zg_goto X dL_law_1781 (tgt := 3268) (by decide) (lw_k ⟨rfl, rfl, rfl, rfl, rfl, rfl, trivial⟩ hCC (by omega) (by omega) (k t1 f1 g hVt))
  · skip
    refine zg_aload_n X dL_law_1769 rfl ?_
    refine zg_iconst X (v := 0) dL_law_1770 (by decide) ?_
    refine zg_lald X (q0 := 55) (t0 := 3) (n := 1) (f := f1) rfl rfl (vp_in_nI (n := 0) (N := 1) (by decide) (by decide)) dL_law_1771 ?_
    refine zg_iload X dL_law_1772 rfl ?_
    refine zg_i2l X dL_law_1774 ?_
    refine zg_lcmp X dL_law_1775 ?_
    refine zg_if_eq X dL_law_1776 (tgt := 1781) (by decide) (fun _ => ?_) (fun c9 => absurd (lw_cmp (hf0 cv)) c9)
    exact zg_goto X dL_law_1781 (tgt := 3268) (by decide) (lw_k ⟨rfl, rfl, rfl, rfl, rfl, rfl, trivial⟩ hCC (by omega) (by omega) (k t1 f1 g hVt))
set_option maxHeartbeats 4000000 in
theorem lcase_24 (X : zC p s m #[Value.ref b] meth c cL_law 9 (wsLR ++ lwH) RL D (zT T) A) (hfl : l.stackTraces = false) (hX : va_X b L xs s s.heap) (hbl : b < s.heap.size) (hbA : ¬ A b) (hL : L ≤ 2048) (hi : i + 4 ≤ L) (hV : zV σ) (hc : cells + 4 ≤ 603072) (hs : slots + 24 ≤ 7215210) (k : ∀ (t : ZS) (f' : Nat → Int64) (g' : Nat → UInt64), zV t → zG p l e room_1 s m #[Value.ref b] below meth c D 9 A (cells + 4) (slots + 24) Q (wL adC adM aL aD T t t f' g') 3268 (lw0 b adC adM aL aD i) []) : zG p l e room_1 s m #[Value.ref b] below meth c D 9 A cells slots Q (wL adC adM aL aD T σ σ f g) 1784 (lw0 b adC adM aL aD i) [] := by
  refine zg_aload_n X dL_law_1784 rfl ?_
  refine zg_aload_n X dL_law_1785 rfl ?_
  refine zg_iload X dL_law_1786 rfl ?_
  refine zg_iconst X (v := nI 1) dL_law_1788 (by decide) ?_
  refine zg_iadd X dL_law_1789 ?_
  refine zg_top (lw_add i 1) ?_
  refine zg_sld X hX hbl hbA (i := i + 1) (by omega) (by omega) dL_law_1790 ?_
  refine zg_aload_n X dL_law_1791 rfl ?_
  refine zg_lawS X (k_L_holdersOf l hfl D adC T σ hV (xs (i + 1)) aL f) (lh_S gL_law_L_holdersOf) rfl rfl rfl qd_L_holdersOf rfl ⟨Nat.le_of_ble_eq_true rfl, Nat.le_of_ble_eq_true rfl⟩ rfl (Nat.le_of_ble_eq_true rfl) ⟨by show _ ≤ 603072; omega, by show _ ≤ 7215210; omega⟩ dL_law_1792 (fun v u f1 hl => ?_)
  refine zg_istore X dL_law_1795 (by decide) ?_
  refine zg_aload_n X dL_law_1797 rfl ?_
  refine zg_aload_n X dL_law_1798 rfl ?_
  refine zg_iload X dL_law_1799 rfl ?_
  refine zg_iconst X (v := nI 1) dL_law_1801 (by decide) ?_
  refine zg_iadd X dL_law_1802 ?_
  refine zg_top (lw_add i 1) ?_
  refine zg_sld X hX hbl hbA (i := i + 1) (by omega) (by omega) dL_law_1803 ?_
  refine zg_lawMi X (k_X7_holdersOf l D adM T σ hV.1.1.1 (xs (i + 1))) (lh_m gL_law_X7_holdersOf) rfl rfl rfl qv_X7_holdersOf rfl ⟨Nat.le_of_ble_eq_true rfl, Nat.le_of_ble_eq_true rfl⟩ rfl (Nat.le_of_ble_eq_true rfl) ⟨by show _ ≤ 603072; omega, by show _ ≤ 7215210; omega⟩ dL_law_1804 (fun b1 w1 h1 => ?_)
  obtain ⟨t1, hm, rfl⟩ := h1
  refine ⟨t1, rfl, ?_⟩
  obtain ⟨e8, hf0, hC0, hVt⟩ := lw_agree (by decide +kernel) (fun v0 s0 h => by rw [rd_holdersOf h]; exact hV) hV hl hm
  have hCC : wC adC T u = wC adC T t1 := hC0 adC T
  refine zg_istore X dL_law_1807 (by decide) ?_
  refine zg_aload_n X dL_law_1809 rfl ?_
  refine zg_lawMi X (k_X7_thrown l D adM T t1) (lh_m gL_law_X7_thrown) rfl rfl rfl qv_X7_thrown rfl ⟨Nat.le_of_ble_eq_true rfl, Nat.le_of_ble_eq_true rfl⟩ rfl (Nat.le_of_ble_eq_true rfl) ⟨by show _ ≤ 603072; omega, by show _ ≤ 7215210; omega⟩ dL_law_1810 (fun b2 w2 h2 => ?_)
  obtain ⟨rfl, rfl⟩ := h2
  refine ⟨t1, rfl, ?_⟩
  refine zg_iload X dL_law_1813 rfl ?_
  refine zg_icmp_eq X dL_law_1815 (tgt := 1820) (by decide) (fun _ => ?_) (fun c9 => absurd e8 c9)
  refine zg_iload X dL_law_1820 rfl ?_
  refine zg_if_ne X dL_law_1822 (tgt := 1837) (by decide) (fun _ => ?_) (fun cv => ?_)
  · skip
    exact zg_goto X dL_law_1837 (tgt := 3268) (by decide) (lw_k ⟨rfl, rfl, rfl, rfl, rfl, rfl, trivial⟩ hCC (by omega) (by omega) (k t1 f1 g hVt))
  · skip
    refine zg_aload_n X dL_law_1825 rfl ?_
    refine zg_iconst X (v := 0) dL_law_1826 (by decide) ?_
    refine zg_lald X (q0 := 55) (t0 := 3) (n := 1) (f := f1) rfl rfl (vp_in_nI (n := 0) (N := 1) (by decide) (by decide)) dL_law_1827 ?_
    refine zg_iload X dL_law_1828 rfl ?_
    refine zg_i2l X dL_law_1830 ?_
    refine zg_lcmp X dL_law_1831 ?_
    refine zg_if_eq X dL_law_1832 (tgt := 1837) (by decide) (fun _ => ?_) (fun c9 => absurd (lw_cmp (hf0 cv)) c9)
    exact zg_goto X dL_law_1837 (tgt := 3268) (by decide) (lw_k ⟨rfl, rfl, rfl, rfl, rfl, rfl, trivial⟩ hCC (by omega) (by omega) (k t1 f1 g hVt))
set_option maxHeartbeats 4000000 in
theorem lcase_25 (X : zC p s m #[Value.ref b] meth c cL_law 9 (wsLR ++ lwH) RL D (zT T) A) (hfl : l.stackTraces = false) (hX : va_X b L xs s s.heap) (hbl : b < s.heap.size) (hbA : ¬ A b) (hL : L ≤ 2048) (hi : i + 4 ≤ L) (hV : zV σ) (hc : cells + 4 ≤ 603072) (hs : slots + 24 ≤ 7215210) (k : ∀ (t : ZS) (f' : Nat → Int64) (g' : Nat → UInt64), zV t → zG p l e room_1 s m #[Value.ref b] below meth c D 9 A (cells + 4) (slots + 24) Q (wL adC adM aL aD T t t f' g') 3268 (lw0 b adC adM aL aD i) []) : zG p l e room_1 s m #[Value.ref b] below meth c D 9 A cells slots Q (wL adC adM aL aD T σ σ f g) 1840 (lw0 b adC adM aL aD i) [] := by
  refine zg_aload_n X dL_law_1840 rfl ?_
  refine zg_aload_n X dL_law_1841 rfl ?_
  refine zg_iload X dL_law_1842 rfl ?_
  refine zg_iconst X (v := nI 1) dL_law_1844 (by decide) ?_
  refine zg_iadd X dL_law_1845 ?_
  refine zg_top (lw_add i 1) ?_
  refine zg_sld X hX hbl hbA (i := i + 1) (by omega) (by omega) dL_law_1846 ?_
  refine zg_aload_n X dL_law_1847 rfl ?_
  refine zg_lawS X (k_L_rightBits l hfl D adC T σ hV (xs (i + 1)) aL f) (lh_S gL_law_L_rightBits) rfl rfl rfl qd_L_rightBits rfl ⟨Nat.le_of_ble_eq_true rfl, Nat.le_of_ble_eq_true rfl⟩ rfl (Nat.le_of_ble_eq_true rfl) ⟨by show _ ≤ 603072; omega, by show _ ≤ 7215210; omega⟩ dL_law_1848 (fun v u f1 hl => ?_)
  refine zg_istore X dL_law_1851 (by decide) ?_
  refine zg_aload_n X dL_law_1853 rfl ?_
  refine zg_aload_n X dL_law_1854 rfl ?_
  refine zg_iload X dL_law_1855 rfl ?_
  refine zg_iconst X (v := nI 1) dL_law_1857 (by decide) ?_
  refine zg_iadd X dL_law_1858 ?_
  refine zg_top (lw_add i 1) ?_
  refine zg_sld X hX hbl hbA (i := i + 1) (by omega) (by omega) dL_law_1859 ?_
  refine zg_lawMi X (k_X7_rightBits l D adM T σ hV.1.1.1 (xs (i + 1))) (lh_m gL_law_X7_rightBits) rfl rfl rfl qv_X7_rightBits rfl ⟨Nat.le_of_ble_eq_true rfl, Nat.le_of_ble_eq_true rfl⟩ rfl (Nat.le_of_ble_eq_true rfl) ⟨by show _ ≤ 603072; omega, by show _ ≤ 7215210; omega⟩ dL_law_1860 (fun b1 w1 h1 => ?_)
  obtain ⟨t1, hm, rfl⟩ := h1
  refine ⟨t1, rfl, ?_⟩
  obtain ⟨e8, hf0, hC0, hVt⟩ := lw_agree (by decide +kernel) (fun v0 s0 h => by rw [rd_rightBits h]; exact hV) hV hl hm
  have hCC : wC adC T u = wC adC T t1 := hC0 adC T
  refine zg_istore X dL_law_1863 (by decide) ?_
  refine zg_aload_n X dL_law_1865 rfl ?_
  refine zg_lawMi X (k_X7_thrown l D adM T t1) (lh_m gL_law_X7_thrown) rfl rfl rfl qv_X7_thrown rfl ⟨Nat.le_of_ble_eq_true rfl, Nat.le_of_ble_eq_true rfl⟩ rfl (Nat.le_of_ble_eq_true rfl) ⟨by show _ ≤ 603072; omega, by show _ ≤ 7215210; omega⟩ dL_law_1866 (fun b2 w2 h2 => ?_)
  obtain ⟨rfl, rfl⟩ := h2
  refine ⟨t1, rfl, ?_⟩
  refine zg_iload X dL_law_1869 rfl ?_
  refine zg_icmp_eq X dL_law_1871 (tgt := 1876) (by decide) (fun _ => ?_) (fun c9 => absurd e8 c9)
  refine zg_iload X dL_law_1876 rfl ?_
  refine zg_if_ne X dL_law_1878 (tgt := 1893) (by decide) (fun _ => ?_) (fun cv => ?_)
  · skip
    exact zg_goto X dL_law_1893 (tgt := 3268) (by decide) (lw_k ⟨rfl, rfl, rfl, rfl, rfl, rfl, trivial⟩ hCC (by omega) (by omega) (k t1 f1 g hVt))
  · skip
    refine zg_aload_n X dL_law_1881 rfl ?_
    refine zg_iconst X (v := 0) dL_law_1882 (by decide) ?_
    refine zg_lald X (q0 := 55) (t0 := 3) (n := 1) (f := f1) rfl rfl (vp_in_nI (n := 0) (N := 1) (by decide) (by decide)) dL_law_1883 ?_
    refine zg_iload X dL_law_1884 rfl ?_
    refine zg_i2l X dL_law_1886 ?_
    refine zg_lcmp X dL_law_1887 ?_
    refine zg_if_eq X dL_law_1888 (tgt := 1893) (by decide) (fun _ => ?_) (fun c9 => absurd (lw_cmp (hf0 cv)) c9)
    exact zg_goto X dL_law_1893 (tgt := 3268) (by decide) (lw_k ⟨rfl, rfl, rfl, rfl, rfl, rfl, trivial⟩ hCC (by omega) (by omega) (k t1 f1 g hVt))
set_option maxHeartbeats 4000000 in
theorem lcase_26 (X : zC p s m #[Value.ref b] meth c cL_law 9 (wsLR ++ lwH) RL D (zT T) A) (hfl : l.stackTraces = false) (hX : va_X b L xs s s.heap) (hbl : b < s.heap.size) (hbA : ¬ A b) (hL : L ≤ 2048) (hi : i + 4 ≤ L) (hV : zV σ) (hc : cells + 4 ≤ 603072) (hs : slots + 24 ≤ 7215210) (k : ∀ (t : ZS) (f' : Nat → Int64) (g' : Nat → UInt64), zV t → zG p l e room_1 s m #[Value.ref b] below meth c D 9 A (cells + 4) (slots + 24) Q (wL adC adM aL aD T t t f' g') 3268 (lw0 b adC adM aL aD i) []) : zG p l e room_1 s m #[Value.ref b] below meth c D 9 A cells slots Q (wL adC adM aL aD T σ σ f g) 1896 (lw0 b adC adM aL aD i) [] := by
  refine zg_aload_n X dL_law_1896 rfl ?_
  refine zg_aload_n X dL_law_1897 rfl ?_
  refine zg_iload X dL_law_1898 rfl ?_
  refine zg_iconst X (v := nI 1) dL_law_1900 (by decide) ?_
  refine zg_iadd X dL_law_1901 ?_
  refine zg_top (lw_add i 1) ?_
  refine zg_sld X hX hbl hbA (i := i + 1) (by omega) (by omega) dL_law_1902 ?_
  refine zg_aload_n X dL_law_1903 rfl ?_
  refine zg_iload X dL_law_1904 rfl ?_
  refine zg_iconst X (v := nI 2) dL_law_1906 (by decide) ?_
  refine zg_iadd X dL_law_1907 ?_
  refine zg_top (lw_add i 2) ?_
  refine zg_sld X hX hbl hbA (i := i + 2) (by omega) (by omega) dL_law_1908 ?_
  refine zg_aload_n X dL_law_1909 rfl ?_
  refine zg_lawS X (k_L_apart l hfl D adC T σ hV (xs (i + 1)) (xs (i + 2)) aL f) (lh_S gL_law_L_apart) rfl rfl rfl qd_L_apart rfl ⟨Nat.le_of_ble_eq_true rfl, Nat.le_of_ble_eq_true rfl⟩ rfl (Nat.le_of_ble_eq_true rfl) ⟨by show _ ≤ 603072; omega, by show _ ≤ 7215210; omega⟩ dL_law_1910 (fun v u f1 hl => ?_)
  refine zg_istore X dL_law_1913 (by decide) ?_
  refine zg_aload_n X dL_law_1915 rfl ?_
  refine zg_aload_n X dL_law_1916 rfl ?_
  refine zg_iload X dL_law_1917 rfl ?_
  refine zg_iconst X (v := nI 1) dL_law_1919 (by decide) ?_
  refine zg_iadd X dL_law_1920 ?_
  refine zg_top (lw_add i 1) ?_
  refine zg_sld X hX hbl hbA (i := i + 1) (by omega) (by omega) dL_law_1921 ?_
  refine zg_aload_n X dL_law_1922 rfl ?_
  refine zg_iload X dL_law_1923 rfl ?_
  refine zg_iconst X (v := nI 2) dL_law_1925 (by decide) ?_
  refine zg_iadd X dL_law_1926 ?_
  refine zg_top (lw_add i 2) ?_
  refine zg_sld X hX hbl hbA (i := i + 2) (by omega) (by omega) dL_law_1927 ?_
  refine zg_lawMi X (k_X7_apart l D adM T σ hV.1.1.1 (xs (i + 1)) (xs (i + 2))) (lh_m gL_law_X7_apart) rfl rfl rfl qv_X7_apart rfl ⟨Nat.le_of_ble_eq_true rfl, Nat.le_of_ble_eq_true rfl⟩ rfl (Nat.le_of_ble_eq_true rfl) ⟨by show _ ≤ 603072; omega, by show _ ≤ 7215210; omega⟩ dL_law_1928 (fun b1 w1 h1 => ?_)
  obtain ⟨t1, hm, rfl⟩ := h1
  refine ⟨t1, rfl, ?_⟩
  obtain ⟨e8, hf0, hC0, hVt⟩ := lw_agree (by decide +kernel) (fun v0 s0 h => by rw [rd_apart h]; exact hV) hV hl hm
  have hCC : wC adC T u = wC adC T t1 := hC0 adC T
  refine zg_istore X dL_law_1931 (by decide) ?_
  refine zg_aload_n X dL_law_1933 rfl ?_
  refine zg_lawMi X (k_X7_thrown l D adM T t1) (lh_m gL_law_X7_thrown) rfl rfl rfl qv_X7_thrown rfl ⟨Nat.le_of_ble_eq_true rfl, Nat.le_of_ble_eq_true rfl⟩ rfl (Nat.le_of_ble_eq_true rfl) ⟨by show _ ≤ 603072; omega, by show _ ≤ 7215210; omega⟩ dL_law_1934 (fun b2 w2 h2 => ?_)
  obtain ⟨rfl, rfl⟩ := h2
  refine ⟨t1, rfl, ?_⟩
  refine zg_iload X dL_law_1937 rfl ?_
  refine zg_icmp_eq X dL_law_1939 (tgt := 1944) (by decide) (fun _ => ?_) (fun c9 => absurd e8 c9)
  refine zg_iload X dL_law_1944 rfl ?_
  refine zg_if_ne X dL_law_1946 (tgt := 1961) (by decide) (fun _ => ?_) (fun cv => ?_)
  · skip
    exact zg_goto X dL_law_1961 (tgt := 3268) (by decide) (lw_k ⟨rfl, rfl, rfl, rfl, rfl, rfl, trivial⟩ hCC (by omega) (by omega) (k t1 f1 g hVt))
  · skip
    refine zg_aload_n X dL_law_1949 rfl ?_
    refine zg_iconst X (v := 0) dL_law_1950 (by decide) ?_
    refine zg_lald X (q0 := 55) (t0 := 3) (n := 1) (f := f1) rfl rfl (vp_in_nI (n := 0) (N := 1) (by decide) (by decide)) dL_law_1951 ?_
    refine zg_iload X dL_law_1952 rfl ?_
    refine zg_i2l X dL_law_1954 ?_
    refine zg_lcmp X dL_law_1955 ?_
    refine zg_if_eq X dL_law_1956 (tgt := 1961) (by decide) (fun _ => ?_) (fun c9 => absurd (lw_cmp (hf0 cv)) c9)
    exact zg_goto X dL_law_1961 (tgt := 3268) (by decide) (lw_k ⟨rfl, rfl, rfl, rfl, rfl, rfl, trivial⟩ hCC (by omega) (by omega) (k t1 f1 g hVt))
set_option maxHeartbeats 4000000 in
theorem lcase_27 (X : zC p s m #[Value.ref b] meth c cL_law 9 (wsLR ++ lwH) RL D (zT T) A) (hfl : l.stackTraces = false) (hX : va_X b L xs s s.heap) (hbl : b < s.heap.size) (hbA : ¬ A b) (hL : L ≤ 2048) (hi : i + 4 ≤ L) (hV : zV σ) (hc : cells + 4 ≤ 603072) (hs : slots + 24 ≤ 7215210) (k : ∀ (t : ZS) (f' : Nat → Int64) (g' : Nat → UInt64), zV t → zG p l e room_1 s m #[Value.ref b] below meth c D 9 A (cells + 4) (slots + 24) Q (wL adC adM aL aD T t t f' g') 3268 (lw0 b adC adM aL aD i) []) : zG p l e room_1 s m #[Value.ref b] below meth c D 9 A cells slots Q (wL adC adM aL aD T σ σ f g) 1964 (lw0 b adC adM aL aD i) [] := by
  refine zg_aload_n X dL_law_1964 rfl ?_
  refine zg_aload_n X dL_law_1965 rfl ?_
  refine zg_iload X dL_law_1966 rfl ?_
  refine zg_iconst X (v := nI 1) dL_law_1968 (by decide) ?_
  refine zg_iadd X dL_law_1969 ?_
  refine zg_top (lw_add i 1) ?_
  refine zg_sld X hX hbl hbA (i := i + 1) (by omega) (by omega) dL_law_1970 ?_
  refine zg_aload_n X dL_law_1971 rfl ?_
  refine zg_iload X dL_law_1972 rfl ?_
  refine zg_iconst X (v := nI 2) dL_law_1974 (by decide) ?_
  refine zg_iadd X dL_law_1975 ?_
  refine zg_top (lw_add i 2) ?_
  refine zg_sld X hX hbl hbA (i := i + 2) (by omega) (by omega) dL_law_1976 ?_
  refine zg_aload_n X dL_law_1977 rfl ?_
  refine zg_lawS X (k_L_isDenied l hfl D adC T σ hV (xs (i + 1)) (xs (i + 2)) aL f) (lh_S gL_law_L_isDenied) rfl rfl rfl qd_L_isDenied rfl ⟨Nat.le_of_ble_eq_true rfl, Nat.le_of_ble_eq_true rfl⟩ rfl (Nat.le_of_ble_eq_true rfl) ⟨by show _ ≤ 603072; omega, by show _ ≤ 7215210; omega⟩ dL_law_1978 (fun v u f1 hl => ?_)
  refine zg_istore X dL_law_1981 (by decide) ?_
  refine zg_aload_n X dL_law_1983 rfl ?_
  refine zg_aload_n X dL_law_1984 rfl ?_
  refine zg_iload X dL_law_1985 rfl ?_
  refine zg_iconst X (v := nI 1) dL_law_1987 (by decide) ?_
  refine zg_iadd X dL_law_1988 ?_
  refine zg_top (lw_add i 1) ?_
  refine zg_sld X hX hbl hbA (i := i + 1) (by omega) (by omega) dL_law_1989 ?_
  refine zg_aload_n X dL_law_1990 rfl ?_
  refine zg_iload X dL_law_1991 rfl ?_
  refine zg_iconst X (v := nI 2) dL_law_1993 (by decide) ?_
  refine zg_iadd X dL_law_1994 ?_
  refine zg_top (lw_add i 2) ?_
  refine zg_sld X hX hbl hbA (i := i + 2) (by omega) (by omega) dL_law_1995 ?_
  refine zg_lawMi X (k_X7_isDenied l D adM T σ hV.1.1.1 (xs (i + 1)) (xs (i + 2))) (lh_m gL_law_X7_isDenied) rfl rfl rfl qv_X7_isDenied rfl ⟨Nat.le_of_ble_eq_true rfl, Nat.le_of_ble_eq_true rfl⟩ rfl (Nat.le_of_ble_eq_true rfl) ⟨by show _ ≤ 603072; omega, by show _ ≤ 7215210; omega⟩ dL_law_1996 (fun b1 w1 h1 => ?_)
  obtain ⟨t1, hm, rfl⟩ := h1
  refine ⟨t1, rfl, ?_⟩
  obtain ⟨e8, hf0, hC0, hVt⟩ := lw_agree (by decide +kernel) (fun v0 s0 h => by rw [rd_isDenied h]; exact hV) hV hl hm
  have hCC : wC adC T u = wC adC T t1 := hC0 adC T
  refine zg_istore X dL_law_1999 (by decide) ?_
  refine zg_aload_n X dL_law_2001 rfl ?_
  refine zg_lawMi X (k_X7_thrown l D adM T t1) (lh_m gL_law_X7_thrown) rfl rfl rfl qv_X7_thrown rfl ⟨Nat.le_of_ble_eq_true rfl, Nat.le_of_ble_eq_true rfl⟩ rfl (Nat.le_of_ble_eq_true rfl) ⟨by show _ ≤ 603072; omega, by show _ ≤ 7215210; omega⟩ dL_law_2002 (fun b2 w2 h2 => ?_)
  obtain ⟨rfl, rfl⟩ := h2
  refine ⟨t1, rfl, ?_⟩
  refine zg_iload X dL_law_2005 rfl ?_
  refine zg_icmp_eq X dL_law_2007 (tgt := 2012) (by decide) (fun _ => ?_) (fun c9 => absurd e8 c9)
  refine zg_iload X dL_law_2012 rfl ?_
  refine zg_if_ne X dL_law_2014 (tgt := 2036) (by decide) (fun _ => ?_) (fun cv => ?_)
  · skip
    exact zg_goto X dL_law_2036 (tgt := 3268) (by decide) (lw_k ⟨rfl, rfl, rfl, rfl, rfl, rfl, trivial⟩ hCC (by omega) (by omega) (k t1 f1 g hVt))
  · skip
    refine zg_aload_n X dL_law_2017 rfl ?_
    refine zg_iconst X (v := 0) dL_law_2018 (by decide) ?_
    refine zg_lald X (q0 := 55) (t0 := 3) (n := 1) (f := f1) rfl rfl (vp_in_nI (n := 0) (N := 1) (by decide) (by decide)) dL_law_2019 ?_
    refine zg_iload X dL_law_2020 rfl ?_
    refine zg_if_eq X dL_law_2022 (tgt := 2029) (by decide) (fun cz => ?_) (fun cz => ?_)
    · skip
      refine zg_lconst X (v := 0) dL_law_2029 rfl ?_
      refine zg_lcmp X dL_law_2030 ?_
      refine zg_if_eq X dL_law_2031 (tgt := 2036) (by decide) (fun _ => ?_) (fun c9 => absurd (lw_cmp ((hf0 cv).trans (if_pos cz))) c9)
      exact zg_goto X dL_law_2036 (tgt := 3268) (by decide) (lw_k ⟨rfl, rfl, rfl, rfl, rfl, rfl, trivial⟩ hCC (by omega) (by omega) (k t1 f1 g hVt))
    · skip
      refine zg_lconst X (v := 1) dL_law_2025 rfl ?_
      refine zg_goto X dL_law_2026 (tgt := 2030) (by decide) ?_
      refine zg_lcmp X dL_law_2030 ?_
      refine zg_if_eq X dL_law_2031 (tgt := 2036) (by decide) (fun _ => ?_) (fun c9 => absurd (lw_cmp ((hf0 cv).trans (if_neg cz))) c9)
      exact zg_goto X dL_law_2036 (tgt := 3268) (by decide) (lw_k ⟨rfl, rfl, rfl, rfl, rfl, rfl, trivial⟩ hCC (by omega) (by omega) (k t1 f1 g hVt))
end LC
