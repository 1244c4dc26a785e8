/-! The law's cases. -/
section LC
variable {p : Program} {l : Launch} {e : Env} {s : State} {m : MethodId} {b : Nat} {below : List Frame} {meth : Method} {c : Code} {D : va_G} {T : Nat → ClassId} {A : Nat → Prop} {cells slots : Nat} {Q : State → Prop} {adC adM : Nat → Nat} {aL aD : Nat} {σ : ZS} {f : Nat → Int64} {g : Nat → UInt64} {xs : Nat → Int32} {L i : Nat}
set_option maxHeartbeats 4000000 in
theorem lcase_28 (X : zC p s m #[Value.ref b] meth c cL_law 9 (wsLR ++ lwH) RL D (zT T) A) (hfl : l.stackTraces = false) (hX : va_X b L xs s s.heap) (hbl : b < s.heap.size) (hbA : ¬ A b) (hL : L ≤ 2048) (hi : i + 4 ≤ L) (hV : zV σ) (hc : cells + 4 ≤ 603072) (hs : slots + 24 ≤ 7215210) (k : ∀ (t : ZS) (f' : Nat → Int64) (g' : Nat → UInt64), zV t → zG p l e room_1 s m #[Value.ref b] below meth c D 9 A (cells + 4) (slots + 24) Q (wL adC adM aL aD T t t f' g') 3268 (lw0 b adC adM aL aD i) []) : zG p l e room_1 s m #[Value.ref b] below meth c D 9 A cells slots Q (wL adC adM aL aD T σ σ f g) 2039 (lw0 b adC adM aL aD i) [] := by
  refine zg_aload_n X dL_law_2039 rfl ?_
  refine zg_aload_n X dL_law_2040 rfl ?_
  refine zg_iload X dL_law_2041 rfl ?_
  refine zg_iconst X (v := nI 1) dL_law_2043 (by decide) ?_
  refine zg_iadd X dL_law_2044 ?_
  refine zg_top (lw_add i 1) ?_
  refine zg_sld X hX hbl hbA (i := i + 1) (by omega) (by omega) dL_law_2045 ?_
  refine zg_aload_n X dL_law_2046 rfl ?_
  refine zg_iload X dL_law_2047 rfl ?_
  refine zg_iconst X (v := nI 2) dL_law_2049 (by decide) ?_
  refine zg_iadd X dL_law_2050 ?_
  refine zg_top (lw_add i 2) ?_
  refine zg_sld X hX hbl hbA (i := i + 2) (by omega) (by omega) dL_law_2051 ?_
  refine zg_aload_n X dL_law_2052 rfl ?_
  refine zg_lawS X (k_L_paths l hfl D adC T σ hV (xs (i + 1)) (xs (i + 2)) aL f) (lh_S gL_law_L_paths) rfl rfl rfl qd_L_paths rfl ⟨Nat.le_of_ble_eq_true rfl, Nat.le_of_ble_eq_true rfl⟩ rfl (Nat.le_of_ble_eq_true rfl) ⟨by show _ ≤ 603072; omega, by show _ ≤ 7215210; omega⟩ dL_law_2053 (fun v u f1 hl => ?_)
  refine zg_istore X dL_law_2056 (by decide) ?_
  refine zg_aload_n X dL_law_2058 rfl ?_
  refine zg_aload_n X dL_law_2059 rfl ?_
  refine zg_iload X dL_law_2060 rfl ?_
  refine zg_iconst X (v := nI 1) dL_law_2062 (by decide) ?_
  refine zg_iadd X dL_law_2063 ?_
  refine zg_top (lw_add i 1) ?_
  refine zg_sld X hX hbl hbA (i := i + 1) (by omega) (by omega) dL_law_2064 ?_
  refine zg_aload_n X dL_law_2065 rfl ?_
  refine zg_iload X dL_law_2066 rfl ?_
  refine zg_iconst X (v := nI 2) dL_law_2068 (by decide) ?_
  refine zg_iadd X dL_law_2069 ?_
  refine zg_top (lw_add i 2) ?_
  refine zg_sld X hX hbl hbA (i := i + 2) (by omega) (by omega) dL_law_2070 ?_
  refine zg_lawMi X (k_X7_paths l D adM T σ hV.1.1.1 (xs (i + 1)) (xs (i + 2))) (lh_m gL_law_X7_paths) rfl rfl rfl qv_X7_paths rfl ⟨Nat.le_of_ble_eq_true rfl, Nat.le_of_ble_eq_true rfl⟩ rfl (Nat.le_of_ble_eq_true rfl) ⟨by show _ ≤ 603072; omega, by show _ ≤ 7215210; omega⟩ dL_law_2071 (fun b1 w1 h1 => ?_)
  obtain ⟨t1, hm, rfl⟩ := h1
  refine ⟨t1, rfl, ?_⟩
  obtain ⟨e8, hf0, hC0, hVt⟩ := lw_agree (by decide +kernel) (fun v0 s0 h => by rw [rd_paths h]; exact hV) hV hl hm
  have hCC : wC adC T u = wC adC T t1 := hC0 adC T
  refine zg_istore X dL_law_2074 (by decide) ?_
  refine zg_aload_n X dL_law_2076 rfl ?_
  refine zg_lawMi X (k_X7_thrown l D adM T t1) (lh_m gL_law_X7_thrown) rfl rfl rfl qv_X7_thrown rfl ⟨Nat.le_of_ble_eq_true rfl, Nat.le_of_ble_eq_true rfl⟩ rfl (Nat.le_of_ble_eq_true rfl) ⟨by show _ ≤ 603072; omega, by show _ ≤ 7215210; omega⟩ dL_law_2077 (fun b2 w2 h2 => ?_)
  obtain ⟨rfl, rfl⟩ := h2
  refine ⟨t1, rfl, ?_⟩
  refine zg_iload X dL_law_2080 rfl ?_
  refine zg_icmp_eq X dL_law_2082 (tgt := 2087) (by decide) (fun _ => ?_) (fun c9 => absurd e8 c9)
  refine zg_iload X dL_law_2087 rfl ?_
  refine zg_if_ne X dL_law_2089 (tgt := 2104) (by decide) (fun _ => ?_) (fun cv => ?_)
  · skip
    exact zg_goto X dL_law_2104 (tgt := 3268) (by decide) (lw_k ⟨rfl, rfl, rfl, rfl, rfl, rfl, trivial⟩ hCC (by omega) (by omega) (k t1 f1 g hVt))
  · skip
    refine zg_aload_n X dL_law_2092 rfl ?_
    refine zg_iconst X (v := 0) dL_law_2093 (by decide) ?_
    refine zg_lald X (q0 := 55) (t0 := 3) (n := 1) (f := f1) rfl rfl (vp_in_nI (n := 0) (N := 1) (by decide) (by decide)) dL_law_2094 ?_
    refine zg_iload X dL_law_2095 rfl ?_
    refine zg_i2l X dL_law_2097 ?_
    refine zg_lcmp X dL_law_2098 ?_
    refine zg_if_eq X dL_law_2099 (tgt := 2104) (by decide) (fun _ => ?_) (fun c9 => absurd (lw_cmp (hf0 cv)) c9)
    exact zg_goto X dL_law_2104 (tgt := 3268) (by decide) (lw_k ⟨rfl, rfl, rfl, rfl, rfl, rfl, trivial⟩ hCC (by omega) (by omega) (k t1 f1 g hVt))
set_option maxHeartbeats 4000000 in
theorem lcase_29 (X : zC p s m #[Value.ref b] meth c cL_law 9 (wsLR ++ lwH) RL D (zT T) A) (hfl : l.stackTraces = false) (hX : va_X b L xs s s.heap) (hbl : b < s.heap.size) (hbA : ¬ A b) (hL : L ≤ 2048) (hi : i + 4 ≤ L) (hV : zV σ) (hc : cells + 4 ≤ 603072) (hs : slots + 24 ≤ 7215210) (k : ∀ (t : ZS) (f' : Nat → Int64) (g' : Nat → UInt64), zV t → zG p l e room_1 s m #[Value.ref b] below meth c D 9 A (cells + 4) (slots + 24) Q (wL adC adM aL aD T t t f' g') 3268 (lw0 b adC adM aL aD i) []) : zG p l e room_1 s m #[Value.ref b] below meth c D 9 A cells slots Q (wL adC adM aL aD T σ σ f g) 2107 (lw0 b adC adM aL aD i) [] := by
  refine zg_aload_n X dL_law_2107 rfl ?_
  refine zg_aload_n X dL_law_2108 rfl ?_
  refine zg_iload X dL_law_2109 rfl ?_
  refine zg_iconst X (v := nI 1) dL_law_2111 (by decide) ?_
  refine zg_iadd X dL_law_2112 ?_
  refine zg_top (lw_add i 1) ?_
  refine zg_sld X hX hbl hbA (i := i + 1) (by omega) (by omega) dL_law_2113 ?_
  refine zg_aload_n X dL_law_2114 rfl ?_
  refine zg_iload X dL_law_2115 rfl ?_
  refine zg_iconst X (v := nI 2) dL_law_2117 (by decide) ?_
  refine zg_iadd X dL_law_2118 ?_
  refine zg_top (lw_add i 2) ?_
  refine zg_sld X hX hbl hbA (i := i + 2) (by omega) (by omega) dL_law_2119 ?_
  refine zg_aload_n X dL_law_2120 rfl ?_
  refine zg_lawS X (k_L_pathLength l hfl D adC T σ hV (xs (i + 1)) (xs (i + 2)) aL f) (lh_S gL_law_L_pathLength) rfl rfl rfl qd_L_pathLength rfl ⟨Nat.le_of_ble_eq_true rfl, Nat.le_of_ble_eq_true rfl⟩ rfl (Nat.le_of_ble_eq_true rfl) ⟨by show _ ≤ 603072; omega, by show _ ≤ 7215210; omega⟩ dL_law_2121 (fun v u f1 hl => ?_)
  refine zg_istore X dL_law_2124 (by decide) ?_
  refine zg_aload_n X dL_law_2126 rfl ?_
  refine zg_aload_n X dL_law_2127 rfl ?_
  refine zg_iload X dL_law_2128 rfl ?_
  refine zg_iconst X (v := nI 1) dL_law_2130 (by decide) ?_
  refine zg_iadd X dL_law_2131 ?_
  refine zg_top (lw_add i 1) ?_
  refine zg_sld X hX hbl hbA (i := i + 1) (by omega) (by omega) dL_law_2132 ?_
  refine zg_aload_n X dL_law_2133 rfl ?_
  refine zg_iload X dL_law_2134 rfl ?_
  refine zg_iconst X (v := nI 2) dL_law_2136 (by decide) ?_
  refine zg_iadd X dL_law_2137 ?_
  refine zg_top (lw_add i 2) ?_
  refine zg_sld X hX hbl hbA (i := i + 2) (by omega) (by omega) dL_law_2138 ?_
  refine zg_lawMi X (k_X7_pathLength l D adM T σ hV.1.1.1 (xs (i + 1)) (xs (i + 2)) (fun q r _ _ => len_pl hV.1.1.1 q r)) (lh_m gL_law_X7_pathLength) rfl rfl rfl qv_X7_pathLength rfl ⟨Nat.le_of_ble_eq_true rfl, Nat.le_of_ble_eq_true rfl⟩ rfl (Nat.le_of_ble_eq_true rfl) ⟨by show _ ≤ 603072; omega, by show _ ≤ 7215210; omega⟩ dL_law_2139 (fun b1 w1 h1 => ?_)
  obtain ⟨t1, hm, rfl⟩ := h1
  refine ⟨t1, rfl, ?_⟩
  obtain ⟨e8, hf0, hC0, hVt⟩ := lw_agree (by decide +kernel) (fun v0 s0 h => by rw [rd_pathLength h]; exact hV) hV hl hm
  have hCC : wC adC T u = wC adC T t1 := hC0 adC T
  refine zg_istore X dL_law_2142 (by decide) ?_
  refine zg_aload_n X dL_law_2144 rfl ?_
  refine zg_lawMi X (k_X7_thrown l D adM T t1) (lh_m gL_law_X7_thrown) rfl rfl rfl qv_X7_thrown rfl ⟨Nat.le_of_ble_eq_true rfl, Nat.le_of_ble_eq_true rfl⟩ rfl (Nat.le_of_ble_eq_true rfl) ⟨by show _ ≤ 603072; omega, by show _ ≤ 7215210; omega⟩ dL_law_2145 (fun b2 w2 h2 => ?_)
  obtain ⟨rfl, rfl⟩ := h2
  refine ⟨t1, rfl, ?_⟩
  refine zg_iload X dL_law_2148 rfl ?_
  refine zg_icmp_eq X dL_law_2150 (tgt := 2155) (by decide) (fun _ => ?_) (fun c9 => absurd e8 c9)
  refine zg_iload X dL_law_2155 rfl ?_
  refine zg_if_ne X dL_law_2157 (tgt := 2172) (by decide) (fun _ => ?_) (fun cv => ?_)
  · skip
    exact zg_goto X dL_law_2172 (tgt := 3268) (by decide) (lw_k ⟨rfl, rfl, rfl, rfl, rfl, rfl, trivial⟩ hCC (by omega) (by omega) (k t1 f1 g hVt))
  · skip
    refine zg_aload_n X dL_law_2160 rfl ?_
    refine zg_iconst X (v := 0) dL_law_2161 (by decide) ?_
    refine zg_lald X (q0 := 55) (t0 := 3) (n := 1) (f := f1) rfl rfl (vp_in_nI (n := 0) (N := 1) (by decide) (by decide)) dL_law_2162 ?_
    refine zg_iload X dL_law_2163 rfl ?_
    refine zg_i2l X dL_law_2165 ?_
    refine zg_lcmp X dL_law_2166 ?_
    refine zg_if_eq X dL_law_2167 (tgt := 2172) (by decide) (fun _ => ?_) (fun c9 => absurd (lw_cmp (hf0 cv)) c9)
    exact zg_goto X dL_law_2172 (tgt := 3268) (by decide) (lw_k ⟨rfl, rfl, rfl, rfl, rfl, rfl, trivial⟩ hCC (by omega) (by omega) (k t1 f1 g hVt))
set_option maxHeartbeats 4000000 in
theorem lcase_30 (X : zC p s m #[Value.ref b] meth c cL_law 9 (wsLR ++ lwH) RL D (zT T) A) (hfl : l.stackTraces = false) (hX : va_X b L xs s s.heap) (hbl : b < s.heap.size) (hbA : ¬ A b) (hL : L ≤ 2048) (hi : i + 4 ≤ L) (hV : zV σ) (hc : cells + 4 ≤ 603072) (hs : slots + 24 ≤ 7215210) (k : ∀ (t : ZS) (f' : Nat → Int64) (g' : Nat → UInt64), zV t → zG p l e room_1 s m #[Value.ref b] below meth c D 9 A (cells + 4) (slots + 24) Q (wL adC adM aL aD T t t f' g') 3268 (lw0 b adC adM aL aD i) []) : zG p l e room_1 s m #[Value.ref b] below meth c D 9 A cells slots Q (wL adC adM aL aD T σ σ f g) 2175 (lw0 b adC adM aL aD i) [] := by
  refine zg_aload_n X dL_law_2175 rfl ?_
  refine zg_aload_n X dL_law_2176 rfl ?_
  refine zg_iload X dL_law_2177 rfl ?_
  refine zg_iconst X (v := nI 1) dL_law_2179 (by decide) ?_
  refine zg_iadd X dL_law_2180 ?_
  refine zg_top (lw_add i 1) ?_
  refine zg_sld X hX hbl hbA (i := i + 1) (by omega) (by omega) dL_law_2181 ?_
  refine zg_aload_n X dL_law_2182 rfl ?_
  refine zg_iload X dL_law_2183 rfl ?_
  refine zg_iconst X (v := nI 2) dL_law_2185 (by decide) ?_
  refine zg_iadd X dL_law_2186 ?_
  refine zg_top (lw_add i 2) ?_
  refine zg_sld X hX hbl hbA (i := i + 2) (by omega) (by omega) dL_law_2187 ?_
  refine zg_aload_n X dL_law_2188 rfl ?_
  refine zg_iload X dL_law_2189 rfl ?_
  refine zg_iconst X (v := nI 3) dL_law_2191 (by decide) ?_
  refine zg_iadd X dL_law_2192 ?_
  refine zg_top (lw_add i 3) ?_
  refine zg_sld X hX hbl hbA (i := i + 3) (by omega) (by omega) dL_law_2193 ?_
  refine zg_aload_n X dL_law_2194 rfl ?_
  refine zg_lawS X (k_L_pathAt l hfl D adC T σ hV (xs (i + 1)) (xs (i + 2)) (xs (i + 3)) aL f) (lh_S gL_law_L_pathAt) rfl rfl rfl qd_L_pathAt rfl ⟨Nat.le_of_ble_eq_true rfl, Nat.le_of_ble_eq_true rfl⟩ rfl (Nat.le_of_ble_eq_true rfl) ⟨by show _ ≤ 603072; omega, by show _ ≤ 7215210; omega⟩ dL_law_2195 (fun v u f1 hl => ?_)
  refine zg_istore X dL_law_2198 (by decide) ?_
  refine zg_aload_n X dL_law_2200 rfl ?_
  refine zg_aload_n X dL_law_2201 rfl ?_
  refine zg_iload X dL_law_2202 rfl ?_
  refine zg_iconst X (v := nI 1) dL_law_2204 (by decide) ?_
  refine zg_iadd X dL_law_2205 ?_
  refine zg_top (lw_add i 1) ?_
  refine zg_sld X hX hbl hbA (i := i + 1) (by omega) (by omega) dL_law_2206 ?_
  refine zg_aload_n X dL_law_2207 rfl ?_
  refine zg_iload X dL_law_2208 rfl ?_
  refine zg_iconst X (v := nI 2) dL_law_2210 (by decide) ?_
  refine zg_iadd X dL_law_2211 ?_
  refine zg_top (lw_add i 2) ?_
  refine zg_sld X hX hbl hbA (i := i + 2) (by omega) (by omega) dL_law_2212 ?_
  refine zg_aload_n X dL_law_2213 rfl ?_
  refine zg_iload X dL_law_2214 rfl ?_
  refine zg_iconst X (v := nI 3) dL_law_2216 (by decide) ?_
  refine zg_iadd X dL_law_2217 ?_
  refine zg_top (lw_add i 3) ?_
  refine zg_sld X hX hbl hbA (i := i + 3) (by omega) (by omega) dL_law_2218 ?_
  refine zg_lawMi X (k_X7_pathAt l D adM T σ hV.1.1.1 (xs (i + 1)) (xs (i + 2)) (xs (i + 3)) (fun q r _ _ => len_pl hV.1.1.1 q r)) (lh_m gL_law_X7_pathAt) rfl rfl rfl qv_X7_pathAt rfl ⟨Nat.le_of_ble_eq_true rfl, Nat.le_of_ble_eq_true rfl⟩ rfl (Nat.le_of_ble_eq_true rfl) ⟨by show _ ≤ 603072; omega, by show _ ≤ 7215210; omega⟩ dL_law_2219 (fun b1 w1 h1 => ?_)
  obtain ⟨t1, hm, rfl⟩ := h1
  refine ⟨t1, rfl, ?_⟩
  obtain ⟨e8, hf0, hC0, hVt⟩ := lw_agree (by decide +kernel) (fun v0 s0 h => by rw [rd_pathAt h]; exact hV) hV hl hm
  have hCC : wC adC T u = wC adC T t1 := hC0 adC T
  refine zg_istore X dL_law_2222 (by decide) ?_
  refine zg_aload_n X dL_law_2224 rfl ?_
  refine zg_lawMi X (k_X7_thrown l D adM T t1) (lh_m gL_law_X7_thrown) rfl rfl rfl qv_X7_thrown rfl ⟨Nat.le_of_ble_eq_true rfl, Nat.le_of_ble_eq_true rfl⟩ rfl (Nat.le_of_ble_eq_true rfl) ⟨by show _ ≤ 603072; omega, by show _ ≤ 7215210; omega⟩ dL_law_2225 (fun b2 w2 h2 => ?_)
  obtain ⟨rfl, rfl⟩ := h2
  refine ⟨t1, rfl, ?_⟩
  refine zg_iload X dL_law_2228 rfl ?_
  refine zg_icmp_eq X dL_law_2230 (tgt := 2235) (by decide) (fun _ => ?_) (fun c9 => absurd e8 c9)
  refine zg_iload X dL_law_2235 rfl ?_
  refine zg_if_ne X dL_law_2237 (tgt := 2252) (by decide) (fun _ => ?_) (fun cv => ?_)
  · skip
    exact zg_goto X dL_law_2252 (tgt := 3268) (by decide) (lw_k ⟨rfl, rfl, rfl, rfl, rfl, rfl, trivial⟩ hCC (by omega) (by omega) (k t1 f1 g hVt))
  · skip
    refine zg_aload_n X dL_law_2240 rfl ?_
    refine zg_iconst X (v := 0) dL_law_2241 (by decide) ?_
    refine zg_lald X (q0 := 55) (t0 := 3) (n := 1) (f := f1) rfl rfl (vp_in_nI (n := 0) (N := 1) (by decide) (by decide)) dL_law_2242 ?_
    refine zg_iload X dL_law_2243 rfl ?_
    refine zg_i2l X dL_law_2245 ?_
    refine zg_lcmp X dL_law_2246 ?_
    refine zg_if_eq X dL_law_2247 (tgt := 2252) (by decide) (fun _ => ?_) (fun c9 => absurd (lw_cmp (hf0 cv)) c9)
    exact zg_goto X dL_law_2252 (tgt := 3268) (by decide) (lw_k ⟨rfl, rfl, rfl, rfl, rfl, rfl, trivial⟩ hCC (by omega) (by omega) (k t1 f1 g hVt))
set_option maxHeartbeats 4000000 in
theorem lcase_31 (X : zC p s m #[Value.ref b] meth c cL_law 9 (wsLR ++ lwH) RL D (zT T) A) (hfl : l.stackTraces = false) (hX : va_X b L xs s s.heap) (hbl : b < s.heap.size) (hbA : ¬ A b) (hL : L ≤ 2048) (hi : i + 4 ≤ L) (hV : zV σ) (hc : cells + 4 ≤ 603072) (hs : slots + 24 ≤ 7215210) (k : ∀ (t : ZS) (f' : Nat → Int64) (g' : Nat → UInt64), zV t → zG p l e room_1 s m #[Value.ref b] below meth c D 9 A (cells + 4) (slots + 24) Q (wL adC adM aL aD T t t f' g') 3268 (lw0 b adC adM aL aD i) []) : zG p l e room_1 s m #[Value.ref b] below meth c D 9 A cells slots Q (wL adC adM aL aD T σ σ f g) 2255 (lw0 b adC adM aL aD i) [] := by
  refine zg_aload_n X dL_law_2255 rfl ?_
  refine zg_aload_n X dL_law_2256 rfl ?_
  refine zg_iload X dL_law_2257 rfl ?_
  refine zg_iconst X (v := nI 1) dL_law_2259 (by decide) ?_
  refine zg_iadd X dL_law_2260 ?_
  refine zg_top (lw_add i 1) ?_
  refine zg_sld X hX hbl hbA (i := i + 1) (by omega) (by omega) dL_law_2261 ?_
  refine zg_aload_n X dL_law_2262 rfl ?_
  refine zg_lawS X (k_L_riskOf l hfl D adC T σ hV (xs (i + 1)) aL f) (lh_S gL_law_L_riskOf) rfl rfl rfl qd_L_riskOf rfl ⟨Nat.le_of_ble_eq_true rfl, Nat.le_of_ble_eq_true rfl⟩ rfl (Nat.le_of_ble_eq_true rfl) ⟨by show _ ≤ 603072; omega, by show _ ≤ 7215210; omega⟩ dL_law_2263 (fun v u f1 hl => ?_)
  refine zg_istore X dL_law_2266 (by decide) ?_
  refine zg_aload_n X dL_law_2268 rfl ?_
  refine zg_aload_n X dL_law_2269 rfl ?_
  refine zg_iload X dL_law_2270 rfl ?_
  refine zg_iconst X (v := nI 1) dL_law_2272 (by decide) ?_
  refine zg_iadd X dL_law_2273 ?_
  refine zg_top (lw_add i 1) ?_
  refine zg_sld X hX hbl hbA (i := i + 1) (by omega) (by omega) dL_law_2274 ?_
  refine zg_lawMi X (k_X7_riskOf l D adM T σ hV.1.1.1 (xs (i + 1))) (lh_m gL_law_X7_riskOf) rfl rfl rfl qv_X7_riskOf rfl ⟨Nat.le_of_ble_eq_true rfl, Nat.le_of_ble_eq_true rfl⟩ rfl (Nat.le_of_ble_eq_true rfl) ⟨by show _ ≤ 603072; omega, by show _ ≤ 7215210; omega⟩ dL_law_2275 (fun b1 w1 h1 => ?_)
  obtain ⟨t1, hm, rfl⟩ := h1
  refine ⟨t1, rfl, ?_⟩
  obtain ⟨e8, hf0, hC0, hVt⟩ := lw_agree (by decide +kernel) (fun v0 s0 h => by rw [rd_riskOf h]; exact hV) hV hl hm
  have hCC : wC adC T u = wC adC T t1 := hC0 adC T
  refine zg_istore X dL_law_2278 (by decide) ?_
  refine zg_aload_n X dL_law_2280 rfl ?_
  refine zg_lawMi X (k_X7_thrown l D adM T t1) (lh_m gL_law_X7_thrown) rfl rfl rfl qv_X7_thrown rfl ⟨Nat.le_of_ble_eq_true rfl, Nat.le_of_ble_eq_true rfl⟩ rfl (Nat.le_of_ble_eq_true rfl) ⟨by show _ ≤ 603072; omega, by show _ ≤ 7215210; omega⟩ dL_law_2281 (fun b2 w2 h2 => ?_)
  obtain ⟨rfl, rfl⟩ := h2
  refine ⟨t1, rfl, ?_⟩
  refine zg_iload X dL_law_2284 rfl ?_
  refine zg_icmp_eq X dL_law_2286 (tgt := 2291) (by decide) (fun _ => ?_) (fun c9 => absurd e8 c9)
  refine zg_iload X dL_law_2291 rfl ?_
  refine zg_if_ne X dL_law_2293 (tgt := 2308) (by decide) (fun _ => ?_) (fun cv => ?_)
  · skip
    exact zg_goto X dL_law_2308 (tgt := 3268) (by decide) (lw_k ⟨rfl, rfl, rfl, rfl, rfl, rfl, trivial⟩ hCC (by omega) (by omega) (k t1 f1 g hVt))
  · skip
    refine zg_aload_n X dL_law_2296 rfl ?_
    refine zg_iconst X (v := 0) dL_law_2297 (by decide) ?_
    refine zg_lald X (q0 := 55) (t0 := 3) (n := 1) (f := f1) rfl rfl (vp_in_nI (n := 0) (N := 1) (by decide) (by decide)) dL_law_2298 ?_
    refine zg_iload X dL_law_2299 rfl ?_
    refine zg_i2l X dL_law_2301 ?_
    refine zg_lcmp X dL_law_2302 ?_
    refine zg_if_eq X dL_law_2303 (tgt := 2308) (by decide) (fun _ => ?_) (fun c9 => absurd (lw_cmp (hf0 cv)) c9)
    exact zg_goto X dL_law_2308 (tgt := 3268) (by decide) (lw_k ⟨rfl, rfl, rfl, rfl, rfl, rfl, trivial⟩ hCC (by omega) (by omega) (k t1 f1 g hVt))
set_option maxHeartbeats 4000000 in
theorem lcase_32 (X : zC p s m #[Value.ref b] meth c cL_law 9 (wsLR ++ lwH) RL D (zT T) A) (hfl : l.stackTraces = false) (hX : va_X b L xs s s.heap) (hbl : b < s.heap.size) (hbA : ¬ A b) (hL : L ≤ 2048) (hi : i + 4 ≤ L) (hV : zV σ) (hc : cells + 4 ≤ 603072) (hs : slots + 24 ≤ 7215210) (k : ∀ (t : ZS) (f' : Nat → Int64) (g' : Nat → UInt64), zV t → zG p l e room_1 s m #[Value.ref b] below meth c D 9 A (cells + 4) (slots + 24) Q (wL adC adM aL aD T t t f' g') 3268 (lw0 b adC adM aL aD i) []) : zG p l e room_1 s m #[Value.ref b] below meth c D 9 A cells slots Q (wL adC adM aL aD T σ σ f g) 2311 (lw0 b adC adM aL aD i) [] := by
  refine zg_aload_n X dL_law_2311 rfl ?_
  refine zg_aload_n X dL_law_2312 rfl ?_
  refine zg_iload X dL_law_2313 rfl ?_
  refine zg_iconst X (v := nI 1) dL_law_2315 (by decide) ?_
  refine zg_iadd X dL_law_2316 ?_
  refine zg_top (lw_add i 1) ?_
  refine zg_sld X hX hbl hbA (i := i + 1) (by omega) (by omega) dL_law_2317 ?_
  refine zg_aload_n X dL_law_2318 rfl ?_
  refine zg_iload X dL_law_2319 rfl ?_
  refine zg_iconst X (v := nI 2) dL_law_2321 (by decide) ?_
  refine zg_iadd X dL_law_2322 ?_
  refine zg_top (lw_add i 2) ?_
  refine zg_sld X hX hbl hbA (i := i + 2) (by omega) (by omega) dL_law_2323 ?_
  refine zg_aload_n X dL_law_2324 rfl ?_
  refine zg_lawS X (k_L_riskFor l hfl D adC T σ hV (xs (i + 1)) (xs (i + 2)) aL f) (lh_S gL_law_L_riskFor) rfl rfl rfl qd_L_riskFor rfl ⟨Nat.le_of_ble_eq_true rfl, Nat.le_of_ble_eq_true rfl⟩ rfl (Nat.le_of_ble_eq_true rfl) ⟨by show _ ≤ 603072; omega, by show _ ≤ 7215210; omega⟩ dL_law_2325 (fun v u f1 hl => ?_)
  refine zg_istore X dL_law_2328 (by decide) ?_
  refine zg_aload_n X dL_law_2330 rfl ?_
  refine zg_aload_n X dL_law_2331 rfl ?_
  refine zg_iload X dL_law_2332 rfl ?_
  refine zg_iconst X (v := nI 1) dL_law_2334 (by decide) ?_
  refine zg_iadd X dL_law_2335 ?_
  refine zg_top (lw_add i 1) ?_
  refine zg_sld X hX hbl hbA (i := i + 1) (by omega) (by omega) dL_law_2336 ?_
  refine zg_aload_n X dL_law_2337 rfl ?_
  refine zg_iload X dL_law_2338 rfl ?_
  refine zg_iconst X (v := nI 2) dL_law_2340 (by decide) ?_
  refine zg_iadd X dL_law_2341 ?_
  refine zg_top (lw_add i 2) ?_
  refine zg_sld X hX hbl hbA (i := i + 2) (by omega) (by omega) dL_law_2342 ?_
  refine zg_lawMi X (k_X7_riskFor l D adM T σ hV.1.1.1 (xs (i + 1)) (xs (i + 2))) (lh_m gL_law_X7_riskFor) rfl rfl rfl qv_X7_riskFor rfl ⟨Nat.le_of_ble_eq_true rfl, Nat.le_of_ble_eq_true rfl⟩ rfl (Nat.le_of_ble_eq_true rfl) ⟨by show _ ≤ 603072; omega, by show _ ≤ 7215210; omega⟩ dL_law_2343 (fun b1 w1 h1 => ?_)
  obtain ⟨t1, hm, rfl⟩ := h1
  refine ⟨t1, rfl, ?_⟩
  obtain ⟨e8, hf0, hC0, hVt⟩ := lw_agree (by decide +kernel) (fun v0 s0 h => by rw [rd_riskFor h]; exact hV) hV hl hm
  have hCC : wC adC T u = wC adC T t1 := hC0 adC T
  refine zg_istore X dL_law_2346 (by decide) ?_
  refine zg_aload_n X dL_law_2348 rfl ?_
  refine zg_lawMi X (k_X7_thrown l D adM T t1) (lh_m gL_law_X7_thrown) rfl rfl rfl qv_X7_thrown rfl ⟨Nat.le_of_ble_eq_true rfl, Nat.le_of_ble_eq_true rfl⟩ rfl (Nat.le_of_ble_eq_true rfl) ⟨by show _ ≤ 603072; omega, by show _ ≤ 7215210; omega⟩ dL_law_2349 (fun b2 w2 h2 => ?_)
  obtain ⟨rfl, rfl⟩ := h2
  refine ⟨t1, rfl, ?_⟩
  refine zg_iload X dL_law_2352 rfl ?_
  refine zg_icmp_eq X dL_law_2354 (tgt := 2359) (by decide) (fun _ => ?_) (fun c9 => absurd e8 c9)
  refine zg_iload X dL_law_2359 rfl ?_
  refine zg_if_ne X dL_law_2361 (tgt := 2376) (by decide) (fun _ => ?_) (fun cv => ?_)
  · skip
    exact zg_goto X dL_law_2376 (tgt := 3268) (by decide) (lw_k ⟨rfl, rfl, rfl, rfl, rfl, rfl, trivial⟩ hCC (by omega) (by omega) (k t1 f1 g hVt))
  · skip
    refine zg_aload_n X dL_law_2364 rfl ?_
    refine zg_iconst X (v := 0) dL_law_2365 (by decide) ?_
    refine zg_lald X (q0 := 55) (t0 := 3) (n := 1) (f := f1) rfl rfl (vp_in_nI (n := 0) (N := 1) (by decide) (by decide)) dL_law_2366 ?_
    refine zg_iload X dL_law_2367 rfl ?_
    refine zg_i2l X dL_law_2369 ?_
    refine zg_lcmp X dL_law_2370 ?_
    refine zg_if_eq X dL_law_2371 (tgt := 2376) (by decide) (fun _ => ?_) (fun c9 => absurd (lw_cmp (hf0 cv)) c9)
    exact zg_goto X dL_law_2376 (tgt := 3268) (by decide) (lw_k ⟨rfl, rfl, rfl, rfl, rfl, rfl, trivial⟩ hCC (by omega) (by omega) (k t1 f1 g hVt))
set_option maxHeartbeats 4000000 in
theorem lcase_33 (X : zC p s m #[Value.ref b] meth c cL_law 9 (wsLR ++ lwH) RL D (zT T) A) (hfl : l.stackTraces = false) (hX : va_X b L xs s s.heap) (hbl : b < s.heap.size) (hbA : ¬ A b) (hL : L ≤ 2048) (hi : i + 4 ≤ L) (hV : zV σ) (hc : cells + 4 ≤ 603072) (hs : slots + 24 ≤ 7215210) (k : ∀ (t : ZS) (f' : Nat → Int64) (g' : Nat → UInt64), zV t → zG p l e room_1 s m #[Value.ref b] below meth c D 9 A (cells + 4) (slots + 24) Q (wL adC adM aL aD T t t f' g') 3268 (lw0 b adC adM aL aD i) []) : zG p l e room_1 s m #[Value.ref b] below meth c D 9 A cells slots Q (wL adC adM aL aD T σ σ f g) 2379 (lw0 b adC adM aL aD i) [] := by
  refine zg_aload_n X dL_law_2379 rfl ?_
  refine zg_aload_n X dL_law_2380 rfl ?_
  refine zg_iload X dL_law_2381 rfl ?_
  refine zg_iconst X (v := nI 1) dL_law_2383 (by decide) ?_
  refine zg_iadd X dL_law_2384 ?_
  refine zg_top (lw_add i 1) ?_
  refine zg_sld X hX hbl hbA (i := i + 1) (by omega) (by omega) dL_law_2385 ?_
  refine zg_aload_n X dL_law_2386 rfl ?_
  refine zg_lawS X (k_L_reviewerOf l hfl D adC T σ hV (xs (i + 1)) aL f) (lh_S gL_law_L_reviewerOf) rfl rfl rfl qd_L_reviewerOf rfl ⟨Nat.le_of_ble_eq_true rfl, Nat.le_of_ble_eq_true rfl⟩ rfl (Nat.le_of_ble_eq_true rfl) ⟨by show _ ≤ 603072; omega, by show _ ≤ 7215210; omega⟩ dL_law_2387 (fun v u f1 hl => ?_)
  refine zg_istore X dL_law_2390 (by decide) ?_
  refine zg_aload_n X dL_law_2392 rfl ?_
  refine zg_aload_n X dL_law_2393 rfl ?_
  refine zg_iload X dL_law_2394 rfl ?_
  refine zg_iconst X (v := nI 1) dL_law_2396 (by decide) ?_
  refine zg_iadd X dL_law_2397 ?_
  refine zg_top (lw_add i 1) ?_
  refine zg_sld X hX hbl hbA (i := i + 1) (by omega) (by omega) dL_law_2398 ?_
  refine zg_lawMi X (k_X7_reviewerOf l D adM T σ hV.1.1.1 (xs (i + 1))) (lh_m gL_law_X7_reviewerOf) rfl rfl rfl qv_X7_reviewerOf rfl ⟨Nat.le_of_ble_eq_true rfl, Nat.le_of_ble_eq_true rfl⟩ rfl (Nat.le_of_ble_eq_true rfl) ⟨by show _ ≤ 603072; omega, by show _ ≤ 7215210; omega⟩ dL_law_2399 (fun b1 w1 h1 => ?_)
  obtain ⟨t1, hm, rfl⟩ := h1
  refine ⟨t1, rfl, ?_⟩
  obtain ⟨e8, hf0, hC0, hVt⟩ := lw_agree (by decide +kernel) (fun v0 s0 h => by rw [rd_reviewerOf h]; exact hV) hV hl hm
  have hCC : wC adC T u = wC adC T t1 := hC0 adC T
  refine zg_istore X dL_law_2402 (by decide) ?_
  refine zg_aload_n X dL_law_2404 rfl ?_
  refine zg_lawMi X (k_X7_thrown l D adM T t1) (lh_m gL_law_X7_thrown) rfl rfl rfl qv_X7_thrown rfl ⟨Nat.le_of_ble_eq_true rfl, Nat.le_of_ble_eq_true rfl⟩ rfl (Nat.le_of_ble_eq_true rfl) ⟨by show _ ≤ 603072; omega, by show _ ≤ 7215210; omega⟩ dL_law_2405 (fun b2 w2 h2 => ?_)
  obtain ⟨rfl, rfl⟩ := h2
  refine ⟨t1, rfl, ?_⟩
  refine zg_iload X dL_law_2408 rfl ?_
  refine zg_icmp_eq X dL_law_2410 (tgt := 2415) (by decide) (fun _ => ?_) (fun c9 => absurd e8 c9)
  refine zg_iload X dL_law_2415 rfl ?_
  refine zg_if_ne X dL_law_2417 (tgt := 2432) (by decide) (fun _ => ?_) (fun cv => ?_)
  · skip
    exact zg_goto X dL_law_2432 (tgt := 3268) (by decide) (lw_k ⟨rfl, rfl, rfl, rfl, rfl, rfl, trivial⟩ hCC (by omega) (by omega) (k t1 f1 g hVt))
  · skip
    refine zg_aload_n X dL_law_2420 rfl ?_
    refine zg_iconst X (v := 0) dL_law_2421 (by decide) ?_
    refine zg_lald X (q0 := 55) (t0 := 3) (n := 1) (f := f1) rfl rfl (vp_in_nI (n := 0) (N := 1) (by decide) (by decide)) dL_law_2422 ?_
    refine zg_iload X dL_law_2423 rfl ?_
    refine zg_i2l X dL_law_2425 ?_
    refine zg_lcmp X dL_law_2426 ?_
    refine zg_if_eq X dL_law_2427 (tgt := 2432) (by decide) (fun _ => ?_) (fun c9 => absurd (lw_cmp (hf0 cv)) c9)
    exact zg_goto X dL_law_2432 (tgt := 3268) (by decide) (lw_k ⟨rfl, rfl, rfl, rfl, rfl, rfl, trivial⟩ hCC (by omega) (by omega) (k t1 f1 g hVt))
set_option maxHeartbeats 4000000 in
theorem lcase_34 (X : zC p s m #[Value.ref b] meth c cL_law 9 (wsLR ++ lwH) RL D (zT T) A) (hfl : l.stackTraces = false) (hX : va_X b L xs s s.heap) (hbl : b < s.heap.size) (hbA : ¬ A b) (hL : L ≤ 2048) (hi : i + 4 ≤ L) (hV : zV σ) (hc : cells + 4 ≤ 603072) (hs : slots + 24 ≤ 7215210) (k : ∀ (t : ZS) (f' : Nat → Int64) (g' : Nat → UInt64), zV t → zG p l e room_1 s m #[Value.ref b] below meth c D 9 A (cells + 4) (slots + 24) Q (wL adC adM aL aD T t t f' g') 3268 (lw0 b adC adM aL aD i) []) : zG p l e room_1 s m #[Value.ref b] below meth c D 9 A cells slots Q (wL adC adM aL aD T σ σ f g) 2435 (lw0 b adC adM aL aD i) [] := by
  refine zg_aload_n X dL_law_2435 rfl ?_
  refine zg_lawXi X (k_X6_grants l D adC T σ) (lh_m gL_law_X6_grants) rfl rfl rfl qv_X6_grants rfl ⟨Nat.le_of_ble_eq_true rfl, Nat.le_of_ble_eq_true rfl⟩ rfl (Nat.le_of_ble_eq_true rfl) ⟨by show _ ≤ 603072; omega, by show _ ≤ 7215210; omega⟩ dL_law_2436 ?_
  refine zg_aload_n X dL_law_2439 rfl ?_
  refine zg_lawMi X (k_X7_grants l D adM T σ) (lh_m gL_law_X7_grants) rfl rfl rfl qv_X7_grants rfl ⟨Nat.le_of_ble_eq_true rfl, Nat.le_of_ble_eq_true rfl⟩ rfl (Nat.le_of_ble_eq_true rfl) ⟨by show _ ≤ 603072; omega, by show _ ≤ 7215210; omega⟩ dL_law_2440 (fun b1 w1 h1 => ?_)
  obtain ⟨e1, rfl⟩ := h1
  refine ⟨uN σ 8 0, rfl, ?_⟩
  have hCC : wC adC T σ = wC adC T (uN σ 8 0) := (wC_ovl ovl_8).symm
  have hVt : zV (uN σ 8 0) := zV_ovl ovl_8 rfl hV
  exact zg_icmp_eq X dL_law_2443 (tgt := 3268) (by decide) (fun _ => lw_k ⟨rfl, rfl, rfl, rfl, rfl, rfl, trivial⟩ hCC (by omega) (by omega) (k (uN σ 8 0) f g hVt)) (fun c9 => absurd e1.symm c9)
set_option maxHeartbeats 4000000 in
theorem lcase_35 (X : zC p s m #[Value.ref b] meth c cL_law 9 (wsLR ++ lwH) RL D (zT T) A) (hfl : l.stackTraces = false) (hX : va_X b L xs s s.heap) (hbl : b < s.heap.size) (hbA : ¬ A b) (hL : L ≤ 2048) (hi : i + 4 ≤ L) (hV : zV σ) (hc : cells + 4 ≤ 603072) (hs : slots + 24 ≤ 7215210) (k : ∀ (t : ZS) (f' : Nat → Int64) (g' : Nat → UInt64), zV t → zG p l e room_1 s m #[Value.ref b] below meth c D 9 A (cells + 4) (slots + 24) Q (wL adC adM aL aD T t t f' g') 3268 (lw0 b adC adM aL aD i) []) : zG p l e room_1 s m #[Value.ref b] below meth c D 9 A cells slots Q (wL adC adM aL aD T σ σ f g) 2448 (lw0 b adC adM aL aD i) [] := by
  refine zg_aload_n X dL_law_2448 rfl ?_
  refine zg_aload_n X dL_law_2449 rfl ?_
  refine zg_iload X dL_law_2450 rfl ?_
  refine zg_iconst X (v := nI 1) dL_law_2452 (by decide) ?_
  refine zg_iadd X dL_law_2453 ?_
  refine zg_top (lw_add i 1) ?_
  refine zg_sld X hX hbl hbA (i := i + 1) (by omega) (by omega) dL_law_2454 ?_
  refine zg_aload_n X dL_law_2455 rfl ?_
  refine zg_lawS X (k_L_stateOf l hfl D adC T σ hV (xs (i + 1)) aL f) (lh_S gL_law_L_stateOf) rfl rfl rfl qd_L_stateOf rfl ⟨Nat.le_of_ble_eq_true rfl, Nat.le_of_ble_eq_true rfl⟩ rfl (Nat.le_of_ble_eq_true rfl) ⟨by show _ ≤ 603072; omega, by show _ ≤ 7215210; omega⟩ dL_law_2456 (fun v u f1 hl => ?_)
  refine zg_istore X dL_law_2459 (by decide) ?_
  refine zg_aload_n X dL_law_2461 rfl ?_
  refine zg_aload_n X dL_law_2462 rfl ?_
  refine zg_iload X dL_law_2463 rfl ?_
  refine zg_iconst X (v := nI 1) dL_law_2465 (by decide) ?_
  refine zg_iadd X dL_law_2466 ?_
  refine zg_top (lw_add i 1) ?_
  refine zg_sld X hX hbl hbA (i := i + 1) (by omega) (by omega) dL_law_2467 ?_
  refine zg_lawMi X (k_X7_stateOf l D adM T σ hV.1.1.1 (xs (i + 1)) hV.1.2.1) (lh_m gL_law_X7_stateOf) rfl rfl rfl qv_X7_stateOf rfl ⟨Nat.le_of_ble_eq_true rfl, Nat.le_of_ble_eq_true rfl⟩ rfl (Nat.le_of_ble_eq_true rfl) ⟨by show _ ≤ 603072; omega, by show _ ≤ 7215210; omega⟩ dL_law_2468 (fun b1 w1 h1 => ?_)
  obtain ⟨t1, hm, rfl⟩ := h1
  refine ⟨t1, rfl, ?_⟩
  obtain ⟨e8, hf0, hC0, hVt⟩ := lw_agree (by decide +kernel) (fun v0 s0 h => by rw [rd_stateOf h]; exact hV) hV hl hm
  have hCC : wC adC T u = wC adC T t1 := hC0 adC T
  refine zg_istore X dL_law_2471 (by decide) ?_
  refine zg_aload_n X dL_law_2473 rfl ?_
  refine zg_lawMi X (k_X7_thrown l D adM T t1) (lh_m gL_law_X7_thrown) rfl rfl rfl qv_X7_thrown rfl ⟨Nat.le_of_ble_eq_true rfl, Nat.le_of_ble_eq_true rfl⟩ rfl (Nat.le_of_ble_eq_true rfl) ⟨by show _ ≤ 603072; omega, by show _ ≤ 7215210; omega⟩ dL_law_2474 (fun b2 w2 h2 => ?_)
  obtain ⟨rfl, rfl⟩ := h2
  refine ⟨t1, rfl, ?_⟩
  refine zg_iload X dL_law_2477 rfl ?_
  refine zg_icmp_eq X dL_law_2479 (tgt := 2484) (by decide) (fun _ => ?_) (fun c9 => absurd e8 c9)
  refine zg_iload X dL_law_2484 rfl ?_
  refine zg_if_ne X dL_law_2486 (tgt := 2501) (by decide) (fun _ => ?_) (fun cv => ?_)
  · skip
    exact zg_goto X dL_law_2501 (tgt := 3268) (by decide) (lw_k ⟨rfl, rfl, rfl, rfl, rfl, rfl, trivial⟩ hCC (by omega) (by omega) (k t1 f1 g hVt))
  · skip
    refine zg_aload_n X dL_law_2489 rfl ?_
    refine zg_iconst X (v := 0) dL_law_2490 (by decide) ?_
    refine zg_lald X (q0 := 55) (t0 := 3) (n := 1) (f := f1) rfl rfl (vp_in_nI (n := 0) (N := 1) (by decide) (by decide)) dL_law_2491 ?_
    refine zg_iload X dL_law_2492 rfl ?_
    refine zg_i2l X dL_law_2494 ?_
    refine zg_lcmp X dL_law_2495 ?_
    refine zg_if_eq X dL_law_2496 (tgt := 2501) (by decide) (fun _ => ?_) (fun c9 => absurd (lw_cmp (hf0 cv)) c9)
    exact zg_goto X dL_law_2501 (tgt := 3268) (by decide) (lw_k ⟨rfl, rfl, rfl, rfl, rfl, rfl, trivial⟩ hCC (by omega) (by omega) (k t1 f1 g hVt))
set_option maxHeartbeats 4000000 in
theorem lcase_36 (X : zC p s m #[Value.ref b] meth c cL_law 9 (wsLR ++ lwH) RL D (zT T) A) (hfl : l.stackTraces = false) (hX : va_X b L xs s s.heap) (hbl : b < s.heap.size) (hbA : ¬ A b) (hL : L ≤ 2048) (hi : i + 4 ≤ L) (hV : zV σ) (hc : cells + 4 ≤ 603072) (hs : slots + 24 ≤ 7215210) (k : ∀ (t : ZS) (f' : Nat → Int64) (g' : Nat → UInt64), zV t → zG p l e room_1 s m #[Value.ref b] below meth c D 9 A (cells + 4) (slots + 24) Q (wL adC adM aL aD T t t f' g') 3268 (lw0 b adC adM aL aD i) []) : zG p l e room_1 s m #[Value.ref b] below meth c D 9 A cells slots Q (wL adC adM aL aD T σ σ f g) 2504 (lw0 b adC adM aL aD i) [] := by
  refine zg_aload_n X dL_law_2504 rfl ?_
  refine zg_aload_n X dL_law_2505 rfl ?_
  refine zg_iload X dL_law_2506 rfl ?_
  refine zg_iconst X (v := nI 1) dL_law_2508 (by decide) ?_
  refine zg_iadd X dL_law_2509 ?_
  refine zg_top (lw_add i 1) ?_
  refine zg_sld X hX hbl hbA (i := i + 1) (by omega) (by omega) dL_law_2510 ?_
  refine zg_aload_n X dL_law_2511 rfl ?_
  refine zg_lawS X (k_L_dueDay l hfl D adC T σ hV (xs (i + 1)) aL f) (lh_S gL_law_L_dueDay) rfl rfl rfl qd_L_dueDay rfl ⟨Nat.le_of_ble_eq_true rfl, Nat.le_of_ble_eq_true rfl⟩ rfl (Nat.le_of_ble_eq_true rfl) ⟨by show _ ≤ 603072; omega, by show _ ≤ 7215210; omega⟩ dL_law_2512 (fun v u f1 hl => ?_)
  refine zg_istore X dL_law_2515 (by decide) ?_
  refine zg_aload_n X dL_law_2517 rfl ?_
  refine zg_aload_n X dL_law_2518 rfl ?_
  refine zg_iload X dL_law_2519 rfl ?_
  refine zg_iconst X (v := nI 1) dL_law_2521 (by decide) ?_
  refine zg_iadd X dL_law_2522 ?_
  refine zg_top (lw_add i 1) ?_
  refine zg_sld X hX hbl hbA (i := i + 1) (by omega) (by omega) dL_law_2523 ?_
  refine zg_lawMi X (k_X7_dueDay l D adM T σ hV.1.1.1 (xs (i + 1))) (lh_m gL_law_X7_dueDay) rfl rfl rfl qv_X7_dueDay rfl ⟨Nat.le_of_ble_eq_true rfl, Nat.le_of_ble_eq_true rfl⟩ rfl (Nat.le_of_ble_eq_true rfl) ⟨by show _ ≤ 603072; omega, by show _ ≤ 7215210; omega⟩ dL_law_2524 (fun b1 w1 h1 => ?_)
  obtain ⟨t1, hm, rfl⟩ := h1
  refine ⟨t1, rfl, ?_⟩
  obtain ⟨e8, hf0, hC0, hVt⟩ := lw_agree (by decide +kernel) (fun v0 s0 h => by rw [rd_dueDay h]; exact hV) hV hl hm
  have hCC : wC adC T u = wC adC T t1 := hC0 adC T
  refine zg_istore X dL_law_2527 (by decide) ?_
  refine zg_aload_n X dL_law_2529 rfl ?_
  refine zg_lawMi X (k_X7_thrown l D adM T t1) (lh_m gL_law_X7_thrown) rfl rfl rfl qv_X7_thrown rfl ⟨Nat.le_of_ble_eq_true rfl, Nat.le_of_ble_eq_true rfl⟩ rfl (Nat.le_of_ble_eq_true rfl) ⟨by show _ ≤ 603072; omega, by show _ ≤ 7215210; omega⟩ dL_law_2530 (fun b2 w2 h2 => ?_)
  obtain ⟨rfl, rfl⟩ := h2
  refine ⟨t1, rfl, ?_⟩
  refine zg_iload X dL_law_2533 rfl ?_
  refine zg_icmp_eq X dL_law_2535 (tgt := 2540) (by decide) (fun _ => ?_) (fun c9 => absurd e8 c9)
  refine zg_iload X dL_law_2540 rfl ?_
  refine zg_if_ne X dL_law_2542 (tgt := 2557) (by decide) (fun _ => ?_) (fun cv => ?_)
  · skip
    exact zg_goto X dL_law_2557 (tgt := 3268) (by decide) (lw_k ⟨rfl, rfl, rfl, rfl, rfl, rfl, trivial⟩ hCC (by omega) (by omega) (k t1 f1 g hVt))
  · skip
    refine zg_aload_n X dL_law_2545 rfl ?_
    refine zg_iconst X (v := 0) dL_law_2546 (by decide) ?_
    refine zg_lald X (q0 := 55) (t0 := 3) (n := 1) (f := f1) rfl rfl (vp_in_nI (n := 0) (N := 1) (by decide) (by decide)) dL_law_2547 ?_
    refine zg_iload X dL_law_2548 rfl ?_
    refine zg_i2l X dL_law_2550 ?_
    refine zg_lcmp X dL_law_2551 ?_
    refine zg_if_eq X dL_law_2552 (tgt := 2557) (by decide) (fun _ => ?_) (fun c9 => absurd (lw_cmp (hf0 cv)) c9)
    exact zg_goto X dL_law_2557 (tgt := 3268) (by decide) (lw_k ⟨rfl, rfl, rfl, rfl, rfl, rfl, trivial⟩ hCC (by omega) (by omega) (k t1 f1 g hVt))
set_option maxHeartbeats 4000000 in
theorem lcase_37 (X : zC p s m #[Value.ref b] meth c cL_law 9 (wsLR ++ lwH) RL D (zT T) A) (hfl : l.stackTraces = false) (hX : va_X b L xs s s.heap) (hbl : b < s.heap.size) (hbA : ¬ A b) (hL : L ≤ 2048) (hi : i + 4 ≤ L) (hV : zV σ) (hc : cells + 4 ≤ 603072) (hs : slots + 24 ≤ 7215210) (k : ∀ (t : ZS) (f' : Nat → Int64) (g' : Nat → UInt64), zV t → zG p l e room_1 s m #[Value.ref b] below meth c D 9 A (cells + 4) (slots + 24) Q (wL adC adM aL aD T t t f' g') 3268 (lw0 b adC adM aL aD i) []) : zG p l e room_1 s m #[Value.ref b] below meth c D 9 A cells slots Q (wL adC adM aL aD T σ σ f g) 2560 (lw0 b adC adM aL aD i) [] := by
  refine zg_aload_n X dL_law_2560 rfl ?_
  refine zg_aload_n X dL_law_2561 rfl ?_
  refine zg_iload X dL_law_2562 rfl ?_
  refine zg_iconst X (v := nI 1) dL_law_2564 (by decide) ?_
  refine zg_iadd X dL_law_2565 ?_
  refine zg_top (lw_add i 1) ?_
  refine zg_sld X hX hbl hbA (i := i + 1) (by omega) (by omega) dL_law_2566 ?_
  refine zg_aload_n X dL_law_2567 rfl ?_
  refine zg_lawS X (k_L_lastUse l hfl D adC T σ hV (xs (i + 1)) aL f) (lh_S gL_law_L_lastUse) rfl rfl rfl qd_L_lastUse rfl ⟨Nat.le_of_ble_eq_true rfl, Nat.le_of_ble_eq_true rfl⟩ rfl (Nat.le_of_ble_eq_true rfl) ⟨by show _ ≤ 603072; omega, by show _ ≤ 7215210; omega⟩ dL_law_2568 (fun v u f1 hl => ?_)
  refine zg_istore X dL_law_2571 (by decide) ?_
  refine zg_aload_n X dL_law_2573 rfl ?_
  refine zg_aload_n X dL_law_2574 rfl ?_
  refine zg_iload X dL_law_2575 rfl ?_
  refine zg_iconst X (v := nI 1) dL_law_2577 (by decide) ?_
  refine zg_iadd X dL_law_2578 ?_
  refine zg_top (lw_add i 1) ?_
  refine zg_sld X hX hbl hbA (i := i + 1) (by omega) (by omega) dL_law_2579 ?_
  refine zg_lawMi X (k_X7_lastUse l D adM T σ hV.1.1.1 (xs (i + 1))) (lh_m gL_law_X7_lastUse) rfl rfl rfl qv_X7_lastUse rfl ⟨Nat.le_of_ble_eq_true rfl, Nat.le_of_ble_eq_true rfl⟩ rfl (Nat.le_of_ble_eq_true rfl) ⟨by show _ ≤ 603072; omega, by show _ ≤ 7215210; omega⟩ dL_law_2580 (fun b1 w1 h1 => ?_)
  obtain ⟨t1, hm, rfl⟩ := h1
  refine ⟨t1, rfl, ?_⟩
  obtain ⟨e8, hf0, hC0, hVt⟩ := lw_agree (by decide +kernel) (fun v0 s0 h => by rw [rd_lastUse h]; exact hV) hV hl hm
  have hCC : wC adC T u = wC adC T t1 := hC0 adC T
  refine zg_istore X dL_law_2583 (by decide) ?_
  refine zg_aload_n X dL_law_2585 rfl ?_
  refine zg_lawMi X (k_X7_thrown l D adM T t1) (lh_m gL_law_X7_thrown) rfl rfl rfl qv_X7_thrown rfl ⟨Nat.le_of_ble_eq_true rfl, Nat.le_of_ble_eq_true rfl⟩ rfl (Nat.le_of_ble_eq_true rfl) ⟨by show _ ≤ 603072; omega, by show _ ≤ 7215210; omega⟩ dL_law_2586 (fun b2 w2 h2 => ?_)
  obtain ⟨rfl, rfl⟩ := h2
  refine ⟨t1, rfl, ?_⟩
  refine zg_iload X dL_law_2589 rfl ?_
  refine zg_icmp_eq X dL_law_2591 (tgt := 2596) (by decide) (fun _ => ?_) (fun c9 => absurd e8 c9)
  refine zg_iload X dL_law_2596 rfl ?_
  refine zg_if_ne X dL_law_2598 (tgt := 2613) (by decide) (fun _ => ?_) (fun cv => ?_)
  · skip
    exact zg_goto X dL_law_2613 (tgt := 3268) (by decide) (lw_k ⟨rfl, rfl, rfl, rfl, rfl, rfl, trivial⟩ hCC (by omega) (by omega) (k t1 f1 g hVt))
  · skip
    refine zg_aload_n X dL_law_2601 rfl ?_
    refine zg_iconst X (v := 0) dL_law_2602 (by decide) ?_
    refine zg_lald X (q0 := 55) (t0 := 3) (n := 1) (f := f1) rfl rfl (vp_in_nI (n := 0) (N := 1) (by decide) (by decide)) dL_law_2603 ?_
    refine zg_iload X dL_law_2604 rfl ?_
    refine zg_i2l X dL_law_2606 ?_
    refine zg_lcmp X dL_law_2607 ?_
    refine zg_if_eq X dL_law_2608 (tgt := 2613) (by decide) (fun _ => ?_) (fun c9 => absurd (lw_cmp (hf0 cv)) c9)
    exact zg_goto X dL_law_2613 (tgt := 3268) (by decide) (lw_k ⟨rfl, rfl, rfl, rfl, rfl, rfl, trivial⟩ hCC (by omega) (by omega) (k t1 f1 g hVt))
set_option maxHeartbeats 4000000 in
theorem lcase_38 (X : zC p s m #[Value.ref b] meth c cL_law 9 (wsLR ++ lwH) RL D (zT T) A) (hfl : l.stackTraces = false) (hX : va_X b L xs s s.heap) (hbl : b < s.heap.size) (hbA : ¬ A b) (hL : L ≤ 2048) (hi : i + 4 ≤ L) (hV : zV σ) (hc : cells + 4 ≤ 603072) (hs : slots + 24 ≤ 7215210) (k : ∀ (t : ZS) (f' : Nat → Int64) (g' : Nat → UInt64), zV t → zG p l e room_1 s m #[Value.ref b] below meth c D 9 A (cells + 4) (slots + 24) Q (wL adC adM aL aD T t t f' g') 3268 (lw0 b adC adM aL aD i) []) : zG p l e room_1 s m #[Value.ref b] below meth c D 9 A cells slots Q (wL adC adM aL aD T σ σ f g) 2616 (lw0 b adC adM aL aD i) [] := by
  refine zg_aload_n X dL_law_2616 rfl ?_
  refine zg_aload_n X dL_law_2617 rfl ?_
  refine zg_iload X dL_law_2618 rfl ?_
  refine zg_iconst X (v := nI 1) dL_law_2620 (by decide) ?_
  refine zg_iadd X dL_law_2621 ?_
  refine zg_top (lw_add i 1) ?_
  refine zg_sld X hX hbl hbA (i := i + 1) (by omega) (by omega) dL_law_2622 ?_
  refine zg_aload_n X dL_law_2623 rfl ?_
  refine zg_lawS X (k_L_isBlocked l hfl D adC T σ hV (xs (i + 1)) aL f) (lh_S gL_law_L_isBlocked) rfl rfl rfl qd_L_isBlocked rfl ⟨Nat.le_of_ble_eq_true rfl, Nat.le_of_ble_eq_true rfl⟩ rfl (Nat.le_of_ble_eq_true rfl) ⟨by show _ ≤ 603072; omega, by show _ ≤ 7215210; omega⟩ dL_law_2624 (fun v u f1 hl => ?_)
  refine zg_istore X dL_law_2627 (by decide) ?_
  refine zg_aload_n X dL_law_2629 rfl ?_
  refine zg_aload_n X dL_law_2630 rfl ?_
  refine zg_iload X dL_law_2631 rfl ?_
  refine zg_iconst X (v := nI 1) dL_law_2633 (by decide) ?_
  refine zg_iadd X dL_law_2634 ?_
  refine zg_top (lw_add i 1) ?_
  refine zg_sld X hX hbl hbA (i := i + 1) (by omega) (by omega) dL_law_2635 ?_
  refine zg_lawMi X (k_X7_isBlocked l D adM T σ hV.1.1.1 (xs (i + 1))) (lh_m gL_law_X7_isBlocked) rfl rfl rfl qv_X7_isBlocked rfl ⟨Nat.le_of_ble_eq_true rfl, Nat.le_of_ble_eq_true rfl⟩ rfl (Nat.le_of_ble_eq_true rfl) ⟨by show _ ≤ 603072; omega, by show _ ≤ 7215210; omega⟩ dL_law_2636 (fun b1 w1 h1 => ?_)
  obtain ⟨t1, hm, rfl⟩ := h1
  refine ⟨t1, rfl, ?_⟩
  obtain ⟨e8, hf0, hC0, hVt⟩ := lw_agree (by decide +kernel) (fun v0 s0 h => by rw [rd_isBlocked h]; exact hV) hV hl hm
  have hCC : wC adC T u = wC adC T t1 := hC0 adC T
  refine zg_istore X dL_law_2639 (by decide) ?_
  refine zg_aload_n X dL_law_2641 rfl ?_
  refine zg_lawMi X (k_X7_thrown l D adM T t1) (lh_m gL_law_X7_thrown) rfl rfl rfl qv_X7_thrown rfl ⟨Nat.le_of_ble_eq_true rfl, Nat.le_of_ble_eq_true rfl⟩ rfl (Nat.le_of_ble_eq_true rfl) ⟨by show _ ≤ 603072; omega, by show _ ≤ 7215210; omega⟩ dL_law_2642 (fun b2 w2 h2 => ?_)
  obtain ⟨rfl, rfl⟩ := h2
  refine ⟨t1, rfl, ?_⟩
  refine zg_iload X dL_law_2645 rfl ?_
  refine zg_icmp_eq X dL_law_2647 (tgt := 2652) (by decide) (fun _ => ?_) (fun c9 => absurd e8 c9)
  refine zg_iload X dL_law_2652 rfl ?_
  refine zg_if_ne X dL_law_2654 (tgt := 2676) (by decide) (fun _ => ?_) (fun cv => ?_)
  · skip
    exact zg_goto X dL_law_2676 (tgt := 3268) (by decide) (lw_k ⟨rfl, rfl, rfl, rfl, rfl, rfl, trivial⟩ hCC (by omega) (by omega) (k t1 f1 g hVt))
  · skip
    refine zg_aload_n X dL_law_2657 rfl ?_
    refine zg_iconst X (v := 0) dL_law_2658 (by decide) ?_
    refine zg_lald X (q0 := 55) (t0 := 3) (n := 1) (f := f1) rfl rfl (vp_in_nI (n := 0) (N := 1) (by decide) (by decide)) dL_law_2659 ?_
    refine zg_iload X dL_law_2660 rfl ?_
    refine zg_if_eq X dL_law_2662 (tgt := 2669) (by decide) (fun cz => ?_) (fun cz => ?_)
    · skip
      refine zg_lconst X (v := 0) dL_law_2669 rfl ?_
      refine zg_lcmp X dL_law_2670 ?_
      refine zg_if_eq X dL_law_2671 (tgt := 2676) (by decide) (fun _ => ?_) (fun c9 => absurd (lw_cmp ((hf0 cv).trans (if_pos cz))) c9)
      exact zg_goto X dL_law_2676 (tgt := 3268) (by decide) (lw_k ⟨rfl, rfl, rfl, rfl, rfl, rfl, trivial⟩ hCC (by omega) (by omega) (k t1 f1 g hVt))
    · skip
      refine zg_lconst X (v := 1) dL_law_2665 rfl ?_
      refine zg_goto X dL_law_2666 (tgt := 2670) (by decide) ?_
      refine zg_lcmp X dL_law_2670 ?_
      refine zg_if_eq X dL_law_2671 (tgt := 2676) (by decide) (fun _ => ?_) (fun c9 => absurd (lw_cmp ((hf0 cv).trans (if_neg cz))) c9)
      exact zg_goto X dL_law_2676 (tgt := 3268) (by decide) (lw_k ⟨rfl, rfl, rfl, rfl, rfl, rfl, trivial⟩ hCC (by omega) (by omega) (k t1 f1 g hVt))
set_option maxHeartbeats 4000000 in
theorem lcase_39 (X : zC p s m #[Value.ref b] meth c cL_law 9 (wsLR ++ lwH) RL D (zT T) A) (hfl : l.stackTraces = false) (hX : va_X b L xs s s.heap) (hbl : b < s.heap.size) (hbA : ¬ A b) (hL : L ≤ 2048) (hi : i + 4 ≤ L) (hV : zV σ) (hc : cells + 4 ≤ 603072) (hs : slots + 24 ≤ 7215210) (k : ∀ (t : ZS) (f' : Nat → Int64) (g' : Nat → UInt64), zV t → zG p l e room_1 s m #[Value.ref b] below meth c D 9 A (cells + 4) (slots + 24) Q (wL adC adM aL aD T t t f' g') 3268 (lw0 b adC adM aL aD i) []) : zG p l e room_1 s m #[Value.ref b] below meth c D 9 A cells slots Q (wL adC adM aL aD T σ σ f g) 2679 (lw0 b adC adM aL aD i) [] := by
  refine zg_aload_n X dL_law_2679 rfl ?_
  refine zg_lawXi X (k_X6_items l D adC T σ) (lh_m gL_law_X6_items) rfl rfl rfl qv_X6_items rfl ⟨Nat.le_of_ble_eq_true rfl, Nat.le_of_ble_eq_true rfl⟩ rfl (Nat.le_of_ble_eq_true rfl) ⟨by show _ ≤ 603072; omega, by show _ ≤ 7215210; omega⟩ dL_law_2680 ?_
  refine zg_aload_n X dL_law_2683 rfl ?_
  refine zg_lawMi X (k_X7_items l D adM T σ) (lh_m gL_law_X7_items) rfl rfl rfl qv_X7_items rfl ⟨Nat.le_of_ble_eq_true rfl, Nat.le_of_ble_eq_true rfl⟩ rfl (Nat.le_of_ble_eq_true rfl) ⟨by show _ ≤ 603072; omega, by show _ ≤ 7215210; omega⟩ dL_law_2684 (fun b1 w1 h1 => ?_)
  obtain ⟨e1, rfl⟩ := h1
  refine ⟨uN σ 8 0, rfl, ?_⟩
  have hCC : wC adC T σ = wC adC T (uN σ 8 0) := (wC_ovl ovl_8).symm
  have hVt : zV (uN σ 8 0) := zV_ovl ovl_8 rfl hV
  exact zg_icmp_eq X dL_law_2687 (tgt := 3268) (by decide) (fun _ => lw_k ⟨rfl, rfl, rfl, rfl, rfl, rfl, trivial⟩ hCC (by omega) (by omega) (k (uN σ 8 0) f g hVt)) (fun c9 => absurd e1.symm c9)
set_option maxHeartbeats 4000000 in
theorem lcase_40 (X : zC p s m #[Value.ref b] meth c cL_law 9 (wsLR ++ lwH) RL D (zT T) A) (hfl : l.stackTraces = false) (hX : va_X b L xs s s.heap) (hbl : b < s.heap.size) (hbA : ¬ A b) (hL : L ≤ 2048) (hi : i + 4 ≤ L) (hV : zV σ) (hc : cells + 4 ≤ 603072) (hs : slots + 24 ≤ 7215210) (k : ∀ (t : ZS) (f' : Nat → Int64) (g' : Nat → UInt64), zV t → zG p l e room_1 s m #[Value.ref b] below meth c D 9 A (cells + 4) (slots + 24) Q (wL adC adM aL aD T t t f' g') 3268 (lw0 b adC adM aL aD i) []) : zG p l e room_1 s m #[Value.ref b] below meth c D 9 A cells slots Q (wL adC adM aL aD T σ σ f g) 2692 (lw0 b adC adM aL aD i) [] := by
  refine zg_aload_n X dL_law_2692 rfl ?_
  refine zg_lawXi X (k_X6_isOpen l D adC T σ hV.u6) (lh_m gL_law_X6_isOpen) rfl rfl rfl qv_X6_isOpen rfl ⟨Nat.le_of_ble_eq_true rfl, Nat.le_of_ble_eq_true rfl⟩ rfl (Nat.le_of_ble_eq_true rfl) ⟨by show _ ≤ 603072; omega, by show _ ≤ 7215210; omega⟩ dL_law_2693 ?_
  refine zg_aload_n X dL_law_2696 rfl ?_
  refine zg_lawMi X (k_X7_isOpen l D adM T σ ⟨decide (0 < σ.1 6), by rw [hV.2]; exact bI_dec⟩) (lh_m gL_law_X7_isOpen) rfl rfl rfl qv_X7_isOpen rfl ⟨Nat.le_of_ble_eq_true rfl, Nat.le_of_ble_eq_true rfl⟩ rfl (Nat.le_of_ble_eq_true rfl) ⟨by show _ ≤ 603072; omega, by show _ ≤ 7215210; omega⟩ dL_law_2697 (fun b1 w1 h1 => ?_)
  obtain ⟨e1, rfl⟩ := h1
  refine ⟨uN σ 8 0, rfl, ?_⟩
  have hCC : wC adC T σ = wC adC T (uN σ 8 0) := (wC_ovl ovl_8).symm
  have hVt : zV (uN σ 8 0) := zV_ovl ovl_8 rfl hV
  exact zg_icmp_eq X dL_law_2700 (tgt := 3268) (by decide) (fun _ => lw_k ⟨rfl, rfl, rfl, rfl, rfl, rfl, trivial⟩ hCC (by omega) (by omega) (k (uN σ 8 0) f g hVt)) (fun c9 => absurd (e1.trans hV.2).symm c9)
set_option maxHeartbeats 4000000 in
theorem lcase_41 (X : zC p s m #[Value.ref b] meth c cL_law 9 (wsLR ++ lwH) RL D (zT T) A) (hfl : l.stackTraces = false) (hX : va_X b L xs s s.heap) (hbl : b < s.heap.size) (hbA : ¬ A b) (hL : L ≤ 2048) (hi : i + 4 ≤ L) (hV : zV σ) (hc : cells + 4 ≤ 603072) (hs : slots + 24 ≤ 7215210) (k : ∀ (t : ZS) (f' : Nat → Int64) (g' : Nat → UInt64), zV t → zG p l e room_1 s m #[Value.ref b] below meth c D 9 A (cells + 4) (slots + 24) Q (wL adC adM aL aD T t t f' g') 3268 (lw0 b adC adM aL aD i) []) : zG p l e room_1 s m #[Value.ref b] below meth c D 9 A cells slots Q (wL adC adM aL aD T σ σ f g) 2705 (lw0 b adC adM aL aD i) [] := by
  refine zg_aload_n X dL_law_2705 rfl ?_
  refine zg_lawXi X (k_X6_undecided l D adC T σ) (lh_m gL_law_X6_undecided) rfl rfl rfl qv_X6_undecided rfl ⟨Nat.le_of_ble_eq_true rfl, Nat.le_of_ble_eq_true rfl⟩ rfl (Nat.le_of_ble_eq_true rfl) ⟨by show _ ≤ 603072; omega, by show _ ≤ 7215210; omega⟩ dL_law_2706 ?_
  refine zg_aload_n X dL_law_2709 rfl ?_
  refine zg_lawMi X (k_X7_undecided l D adM T σ hV.1.1.1 hV.1.1.2.1) (lh_m gL_law_X7_undecided) rfl rfl rfl qv_X7_undecided rfl ⟨Nat.le_of_ble_eq_true rfl, Nat.le_of_ble_eq_true rfl⟩ rfl (Nat.le_of_ble_eq_true rfl) ⟨by show _ ≤ 603072; omega, by show _ ≤ 7215210; omega⟩ dL_law_2710 (fun b1 w1 h1 => ?_)
  obtain ⟨e1, rfl⟩ := h1
  refine ⟨uN σ 8 0, rfl, ?_⟩
  have hCC : wC adC T σ = wC adC T (uN σ 8 0) := (wC_ovl ovl_8).symm
  have hVt : zV (uN σ 8 0) := zV_ovl ovl_8 rfl hV
  exact zg_icmp_eq X dL_law_2713 (tgt := 3268) (by decide) (fun _ => lw_k ⟨rfl, rfl, rfl, rfl, rfl, rfl, trivial⟩ hCC (by omega) (by omega) (k (uN σ 8 0) f g hVt)) (fun c9 => absurd e1.symm c9)
end LC
