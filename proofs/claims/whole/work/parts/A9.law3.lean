/-! the law's cases, 34 to 49 -/
set_option maxRecDepth 100000 in
set_option maxHeartbeats 4000000 in
theorem L_34 {L : Nat} {xs : Nat → Int32} {l : Launch} {n t dr tx bc bs : Nat} {w : zW} {i : Int} (hL0 : L < 2147483648) (h : zSim n t dr tx w) (hn : n ≤ 600) (i0 : 0 ≤ i) (i6 : i + 6 ≤ (L : Int)) (kk : ∀ (t2 dr2 tx2 : Nat) (w3 : zW), zSim (n + 1) t2 dr2 tx2 w3 → zB L xs l mL_law false 16 bc bs QL zNo 3195 [zR 4000, zR 0, zR 73, zR 121, zI i, .null, .null] [] (ZZ t2 dr2 tx2) w3) : zB L xs l mL_law false 16 (bc + 3) (bs + 18) QL zNo 2155 [zR 4000, zR 0, zR 73, zR 121, zI i, .null, .null] [] (ZZ t dr tx) w := by
  have hp : zPr l n mX11_weak mX12_weak 1 2 false [zI (sc xs (i + 1)), zI (sc xs (i + 2)), zI (sc xs (i + 3)), zI (sc xs (i + 4))] t dr tx w := P_weak h (inR_t _) (inR_t _) (inR_t _) (inR_t _)
  refine zB_aload_n dL_law_2155 rfl ?_
  refine zB_rd dL_law_2156 dL_law_2157 dL_law_2159 dL_law_2160 dL_law_2161 rfl rfl (by omega) (by omega) hL0 ?_
  refine zB_rd dL_law_2162 dL_law_2163 dL_law_2165 dL_law_2166 dL_law_2167 rfl rfl (by omega) (by omega) hL0 ?_
  refine zB_rd dL_law_2168 dL_law_2169 dL_law_2171 dL_law_2172 dL_law_2173 rfl rfl (by omega) (by omega) hL0 ?_
  refine zB_rd dL_law_2174 dL_law_2175 dL_law_2177 dL_law_2178 dL_law_2179 rfl rfl (by omega) (by omega) hL0 ?_
  refine zB_aload_n dL_law_2180 rfl ?_
  refine zB_callS (bc2 := bc) (bs2 := bs) (st := []) dL_law_2181 sL_weak kL_254 (w_weak hp) (by decide) rfl rfl (Nat.le_of_ble_eq_true rfl) ⟨Nat.add_comm _ _, Nat.add_comm _ _⟩ (fun v S1 w1 hq => ?_) (fun E S1 w1 hx => hx.elim)
  obtain ⟨k, rfl, ⟨hk0, hk2⟩, ⟨t1, dr1, tx1, rfl⟩, d2, Q2, hd2, hsp, hk⟩ := hq
  have hkr : inR k := inR_mk (by omega) (by omega)
  show zB L xs l mL_law false 16 bc bs QL zNo 2184 [zR 4000, zR 0, zR 73, zR 121, zI i, .null, .null] [zI k] (ZZ t1 dr1 tx1) w1
  refine zB_istore (lo1 := [zR 4000, zR 0, zR 73, zR 121, zI i, zI k, .null]) dL_law_2184 (by decide) rfl rfl ?_
  refine zB_aload_n dL_law_2186 rfl ?_
  refine zB_rd dL_law_2187 dL_law_2188 dL_law_2190 dL_law_2191 dL_law_2192 rfl rfl (by omega) (by omega) hL0 ?_
  refine zB_rd dL_law_2193 dL_law_2194 dL_law_2196 dL_law_2197 dL_law_2198 rfl rfl (by omega) (by omega) hL0 ?_
  refine zB_rd dL_law_2199 dL_law_2200 dL_law_2202 dL_law_2203 dL_law_2204 rfl rfl (by omega) (by omega) hL0 ?_
  refine zB_rd dL_law_2205 dL_law_2206 dL_law_2208 dL_law_2209 dL_law_2210 rfl rfl (by omega) (by omega) hL0 ?_
  refine zB_cV (st := []) dL_law_2211 vX12_weak kL_256 hsp (by omega) c73 rfl rfl (Nat.le_of_ble_eq_true rfl) rfl (fun v2 S2 w3 hq2 => ?_)
  obtain ⟨z, rfl, hzr, h73, h121, t2, dr2, tx2, rfl, hsim⟩ := hk v2 S2 w3 hq2
  show zB L xs l mL_law false 16 bc bs QL zNo 2214 [zR 4000, zR 0, zR 73, zR 121, zI i, zI k, .null] [zI z] (ZZ t2 dr2 tx2) w3
  refine zB_istore (lo1 := [zR 4000, zR 0, zR 73, zR 121, zI i, zI k, zI z]) dL_law_2214 (by decide) rfl rfl ?_
  refine zB_aload_n dL_law_2216 rfl ?_
  refine zB_cV (st := []) dL_law_2217 vX12_thrown kL_136 (m_thrown (w := w3)) (by decide) c73 rfl rfl (Nat.le_of_ble_eq_true rfl) rfl (fun v4 S4 w4 hq4 => ?_)
  obtain ⟨rfl, rfl, rfl⟩ := hq4
  show zB L xs l mL_law false 16 bc bs QL zNo 2220 [zR 4000, zR 0, zR 73, zR 121, zI i, zI k, zI z] [zI (w4 73 1)] (ZZ t2 dr2 tx2) w4
  rw [h73]
  refine zB_iload dL_law_2220 rfl ?_
  refine zB_icmp_eq (tgt := 2227) dL_law_2222 (by decide) hkr hkr (fun _ => ?_) (fun q => absurd rfl q)
  refine zB_iload dL_law_2227 rfl ?_
  refine zB_if_ne (tgt := 2244) dL_law_2229 (by decide) hkr (fun _ => ?_) (fun q => ?_)
  · refine zB_goto (tgt := 3195) dL_law_2244 (by decide) ?_
    refine zB_drop (lo1 := [zR 4000, zR 0, zR 73, zR 121, zI i, .null, zI z]) 5 rfl ?_
    refine zB_drop (lo1 := [zR 4000, zR 0, zR 73, zR 121, zI i, .null, .null]) 6 rfl ?_
    exact kk t2 dr2 tx2 w4 hsim
  · have h21 := h121 q
    rw [if_neg (by decide)] at h21
    refine zB_aload_n dL_law_2232 rfl ?_
    refine zB_iconst dL_law_2233 ?_
    refine zB_laload dL_law_2234 c121 (by decide) (by decide) (by decide) ?_
    refine zB_iload dL_law_2235 rfl ?_
    rw [h21]
    have hzl : -9223372036854775808 ≤ z ∧ z < 9223372036854775808 := by have h1 := hzr.1; have h2 := hzr.2; omega
    refine zB_i2l dL_law_2237 hzr ?_
    refine zB_lcmp dL_law_2238 hzl hzl ?_
    refine zB_valI 0 (by simp) ?_
    refine zB_if_eq (tgt := 2244) dL_law_2239 (by decide) ⟨by decide, by decide⟩ (fun _ => ?_) (fun q => absurd rfl q)
    refine zB_goto (tgt := 3195) dL_law_2244 (by decide) ?_
    refine zB_drop (lo1 := [zR 4000, zR 0, zR 73, zR 121, zI i, .null, zI z]) 5 rfl ?_
    refine zB_drop (lo1 := [zR 4000, zR 0, zR 73, zR 121, zI i, .null, .null]) 6 rfl ?_
    exact kk t2 dr2 tx2 w4 hsim
set_option maxRecDepth 100000 in
set_option maxHeartbeats 4000000 in
theorem L_35 {L : Nat} {xs : Nat → Int32} {l : Launch} {n t dr tx bc bs : Nat} {w : zW} {i : Int} (hL0 : L < 2147483648) (h : zSim n t dr tx w) (hn : n ≤ 600) (i0 : 0 ≤ i) (i6 : i + 6 ≤ (L : Int)) (kk : ∀ (t2 dr2 tx2 : Nat) (w3 : zW), zSim (n + 1) t2 dr2 tx2 w3 → zB L xs l mL_law false 16 bc bs QL zNo 3195 [zR 4000, zR 0, zR 73, zR 121, zI i, .null, .null] [] (ZZ t2 dr2 tx2) w3) : zB L xs l mL_law false 16 (bc + 3) (bs + 18) QL zNo 2247 [zR 4000, zR 0, zR 73, zR 121, zI i, .null, .null] [] (ZZ t dr tx) w := by
  have hp : zPr l n mX11_lasts mX12_lasts 1 2 false [zI (sc xs (i + 1)), zI (sc xs (i + 2)), zI (sc xs (i + 3))] t dr tx w := P_lasts h (inR_t _) (inR_t _) (inR_t _)
  refine zB_aload_n dL_law_2247 rfl ?_
  refine zB_rd dL_law_2248 dL_law_2249 dL_law_2251 dL_law_2252 dL_law_2253 rfl rfl (by omega) (by omega) hL0 ?_
  refine zB_rd dL_law_2254 dL_law_2255 dL_law_2257 dL_law_2258 dL_law_2259 rfl rfl (by omega) (by omega) hL0 ?_
  refine zB_rd dL_law_2260 dL_law_2261 dL_law_2263 dL_law_2264 dL_law_2265 rfl rfl (by omega) (by omega) hL0 ?_
  refine zB_aload_n dL_law_2266 rfl ?_
  refine zB_callS (bc2 := bc) (bs2 := bs) (st := []) dL_law_2267 sL_lasts kL_257 (w_lasts hp) (by decide) rfl rfl (Nat.le_of_ble_eq_true rfl) ⟨Nat.add_comm _ _, Nat.add_comm _ _⟩ (fun v S1 w1 hq => ?_) (fun E S1 w1 hx => hx.elim)
  obtain ⟨k, rfl, ⟨hk0, hk2⟩, ⟨t1, dr1, tx1, rfl⟩, d2, Q2, hd2, hsp, hk⟩ := hq
  have hkr : inR k := inR_mk (by omega) (by omega)
  show zB L xs l mL_law false 16 bc bs QL zNo 2270 [zR 4000, zR 0, zR 73, zR 121, zI i, .null, .null] [zI k] (ZZ t1 dr1 tx1) w1
  refine zB_istore (lo1 := [zR 4000, zR 0, zR 73, zR 121, zI i, zI k, .null]) dL_law_2270 (by decide) rfl rfl ?_
  refine zB_aload_n dL_law_2272 rfl ?_
  refine zB_rd dL_law_2273 dL_law_2274 dL_law_2276 dL_law_2277 dL_law_2278 rfl rfl (by omega) (by omega) hL0 ?_
  refine zB_rd dL_law_2279 dL_law_2280 dL_law_2282 dL_law_2283 dL_law_2284 rfl rfl (by omega) (by omega) hL0 ?_
  refine zB_rd dL_law_2285 dL_law_2286 dL_law_2288 dL_law_2289 dL_law_2290 rfl rfl (by omega) (by omega) hL0 ?_
  refine zB_cV (st := []) dL_law_2291 vX12_lasts kL_259 hsp (by omega) c73 rfl rfl (Nat.le_of_ble_eq_true rfl) rfl (fun v2 S2 w3 hq2 => ?_)
  obtain ⟨z, rfl, hzr, h73, h121, t2, dr2, tx2, rfl, hsim⟩ := hk v2 S2 w3 hq2
  show zB L xs l mL_law false 16 bc bs QL zNo 2294 [zR 4000, zR 0, zR 73, zR 121, zI i, zI k, .null] [zI z] (ZZ t2 dr2 tx2) w3
  refine zB_istore (lo1 := [zR 4000, zR 0, zR 73, zR 121, zI i, zI k, zI z]) dL_law_2294 (by decide) rfl rfl ?_
  refine zB_aload_n dL_law_2296 rfl ?_
  refine zB_cV (st := []) dL_law_2297 vX12_thrown kL_136 (m_thrown (w := w3)) (by decide) c73 rfl rfl (Nat.le_of_ble_eq_true rfl) rfl (fun v4 S4 w4 hq4 => ?_)
  obtain ⟨rfl, rfl, rfl⟩ := hq4
  show zB L xs l mL_law false 16 bc bs QL zNo 2300 [zR 4000, zR 0, zR 73, zR 121, zI i, zI k, zI z] [zI (w4 73 1)] (ZZ t2 dr2 tx2) w4
  rw [h73]
  refine zB_iload dL_law_2300 rfl ?_
  refine zB_icmp_eq (tgt := 2307) dL_law_2302 (by decide) hkr hkr (fun _ => ?_) (fun q => absurd rfl q)
  refine zB_iload dL_law_2307 rfl ?_
  refine zB_if_ne (tgt := 2324) dL_law_2309 (by decide) hkr (fun _ => ?_) (fun q => ?_)
  · refine zB_goto (tgt := 3195) dL_law_2324 (by decide) ?_
    refine zB_drop (lo1 := [zR 4000, zR 0, zR 73, zR 121, zI i, .null, zI z]) 5 rfl ?_
    refine zB_drop (lo1 := [zR 4000, zR 0, zR 73, zR 121, zI i, .null, .null]) 6 rfl ?_
    exact kk t2 dr2 tx2 w4 hsim
  · have h21 := h121 q
    rw [if_neg (by decide)] at h21
    refine zB_aload_n dL_law_2312 rfl ?_
    refine zB_iconst dL_law_2313 ?_
    refine zB_laload dL_law_2314 c121 (by decide) (by decide) (by decide) ?_
    refine zB_iload dL_law_2315 rfl ?_
    rw [h21]
    have hzl : -9223372036854775808 ≤ z ∧ z < 9223372036854775808 := by have h1 := hzr.1; have h2 := hzr.2; omega
    refine zB_i2l dL_law_2317 hzr ?_
    refine zB_lcmp dL_law_2318 hzl hzl ?_
    refine zB_valI 0 (by simp) ?_
    refine zB_if_eq (tgt := 2324) dL_law_2319 (by decide) ⟨by decide, by decide⟩ (fun _ => ?_) (fun q => absurd rfl q)
    refine zB_goto (tgt := 3195) dL_law_2324 (by decide) ?_
    refine zB_drop (lo1 := [zR 4000, zR 0, zR 73, zR 121, zI i, .null, zI z]) 5 rfl ?_
    refine zB_drop (lo1 := [zR 4000, zR 0, zR 73, zR 121, zI i, .null, .null]) 6 rfl ?_
    exact kk t2 dr2 tx2 w4 hsim
set_option maxRecDepth 100000 in
set_option maxHeartbeats 4000000 in
theorem L_36 {L : Nat} {xs : Nat → Int32} {l : Launch} {n t dr tx bc bs : Nat} {w : zW} {i : Int} (hL0 : L < 2147483648) (h : zSim n t dr tx w) (hn : n ≤ 600) (i0 : 0 ≤ i) (i6 : i + 6 ≤ (L : Int)) (kk : ∀ (t2 dr2 tx2 : Nat) (w3 : zW), zSim (n + 1) t2 dr2 tx2 w3 → zB L xs l mL_law false 16 bc bs QL zNo 3195 [zR 4000, zR 0, zR 73, zR 121, zI i, .null, .null] [] (ZZ t2 dr2 tx2) w3) : zB L xs l mL_law false 16 (bc + 3) (bs + 18) QL zNo 2327 [zR 4000, zR 0, zR 73, zR 121, zI i, .null, .null] [] (ZZ t dr tx) w := by
  have hp : zPr l n mX11_bands mX12_bands 1 2 false [zI (sc xs (i + 1)), zI (sc xs (i + 2)), zI (sc xs (i + 3)), zI (sc xs (i + 4))] t dr tx w := P_bands h (inR_t _) (inR_t _) (inR_t _) (inR_t _)
  refine zB_aload_n dL_law_2327 rfl ?_
  refine zB_rd dL_law_2328 dL_law_2329 dL_law_2331 dL_law_2332 dL_law_2333 rfl rfl (by omega) (by omega) hL0 ?_
  refine zB_rd dL_law_2334 dL_law_2335 dL_law_2337 dL_law_2338 dL_law_2339 rfl rfl (by omega) (by omega) hL0 ?_
  refine zB_rd dL_law_2340 dL_law_2341 dL_law_2343 dL_law_2344 dL_law_2345 rfl rfl (by omega) (by omega) hL0 ?_
  refine zB_rd dL_law_2346 dL_law_2347 dL_law_2349 dL_law_2350 dL_law_2351 rfl rfl (by omega) (by omega) hL0 ?_
  refine zB_aload_n dL_law_2352 rfl ?_
  refine zB_callS (bc2 := bc) (bs2 := bs) (st := []) dL_law_2353 sL_bands kL_260 (w_bands hp) (by decide) rfl rfl (Nat.le_of_ble_eq_true rfl) ⟨Nat.add_comm _ _, Nat.add_comm _ _⟩ (fun v S1 w1 hq => ?_) (fun E S1 w1 hx => hx.elim)
  obtain ⟨k, rfl, ⟨hk0, hk2⟩, ⟨t1, dr1, tx1, rfl⟩, d2, Q2, hd2, hsp, hk⟩ := hq
  have hkr : inR k := inR_mk (by omega) (by omega)
  show zB L xs l mL_law false 16 bc bs QL zNo 2356 [zR 4000, zR 0, zR 73, zR 121, zI i, .null, .null] [zI k] (ZZ t1 dr1 tx1) w1
  refine zB_istore (lo1 := [zR 4000, zR 0, zR 73, zR 121, zI i, zI k, .null]) dL_law_2356 (by decide) rfl rfl ?_
  refine zB_aload_n dL_law_2358 rfl ?_
  refine zB_rd dL_law_2359 dL_law_2360 dL_law_2362 dL_law_2363 dL_law_2364 rfl rfl (by omega) (by omega) hL0 ?_
  refine zB_rd dL_law_2365 dL_law_2366 dL_law_2368 dL_law_2369 dL_law_2370 rfl rfl (by omega) (by omega) hL0 ?_
  refine zB_rd dL_law_2371 dL_law_2372 dL_law_2374 dL_law_2375 dL_law_2376 rfl rfl (by omega) (by omega) hL0 ?_
  refine zB_rd dL_law_2377 dL_law_2378 dL_law_2380 dL_law_2381 dL_law_2382 rfl rfl (by omega) (by omega) hL0 ?_
  refine zB_cV (st := []) dL_law_2383 vX12_bands kL_262 hsp (by omega) c73 rfl rfl (Nat.le_of_ble_eq_true rfl) rfl (fun v2 S2 w3 hq2 => ?_)
  obtain ⟨z, rfl, hzr, h73, h121, t2, dr2, tx2, rfl, hsim⟩ := hk v2 S2 w3 hq2
  show zB L xs l mL_law false 16 bc bs QL zNo 2386 [zR 4000, zR 0, zR 73, zR 121, zI i, zI k, .null] [zI z] (ZZ t2 dr2 tx2) w3
  refine zB_istore (lo1 := [zR 4000, zR 0, zR 73, zR 121, zI i, zI k, zI z]) dL_law_2386 (by decide) rfl rfl ?_
  refine zB_aload_n dL_law_2388 rfl ?_
  refine zB_cV (st := []) dL_law_2389 vX12_thrown kL_136 (m_thrown (w := w3)) (by decide) c73 rfl rfl (Nat.le_of_ble_eq_true rfl) rfl (fun v4 S4 w4 hq4 => ?_)
  obtain ⟨rfl, rfl, rfl⟩ := hq4
  show zB L xs l mL_law false 16 bc bs QL zNo 2392 [zR 4000, zR 0, zR 73, zR 121, zI i, zI k, zI z] [zI (w4 73 1)] (ZZ t2 dr2 tx2) w4
  rw [h73]
  refine zB_iload dL_law_2392 rfl ?_
  refine zB_icmp_eq (tgt := 2399) dL_law_2394 (by decide) hkr hkr (fun _ => ?_) (fun q => absurd rfl q)
  refine zB_iload dL_law_2399 rfl ?_
  refine zB_if_ne (tgt := 2416) dL_law_2401 (by decide) hkr (fun _ => ?_) (fun q => ?_)
  · refine zB_goto (tgt := 3195) dL_law_2416 (by decide) ?_
    refine zB_drop (lo1 := [zR 4000, zR 0, zR 73, zR 121, zI i, .null, zI z]) 5 rfl ?_
    refine zB_drop (lo1 := [zR 4000, zR 0, zR 73, zR 121, zI i, .null, .null]) 6 rfl ?_
    exact kk t2 dr2 tx2 w4 hsim
  · have h21 := h121 q
    rw [if_neg (by decide)] at h21
    refine zB_aload_n dL_law_2404 rfl ?_
    refine zB_iconst dL_law_2405 ?_
    refine zB_laload dL_law_2406 c121 (by decide) (by decide) (by decide) ?_
    refine zB_iload dL_law_2407 rfl ?_
    rw [h21]
    have hzl : -9223372036854775808 ≤ z ∧ z < 9223372036854775808 := by have h1 := hzr.1; have h2 := hzr.2; omega
    refine zB_i2l dL_law_2409 hzr ?_
    refine zB_lcmp dL_law_2410 hzl hzl ?_
    refine zB_valI 0 (by simp) ?_
    refine zB_if_eq (tgt := 2416) dL_law_2411 (by decide) ⟨by decide, by decide⟩ (fun _ => ?_) (fun q => absurd rfl q)
    refine zB_goto (tgt := 3195) dL_law_2416 (by decide) ?_
    refine zB_drop (lo1 := [zR 4000, zR 0, zR 73, zR 121, zI i, .null, zI z]) 5 rfl ?_
    refine zB_drop (lo1 := [zR 4000, zR 0, zR 73, zR 121, zI i, .null, .null]) 6 rfl ?_
    exact kk t2 dr2 tx2 w4 hsim
set_option maxRecDepth 100000 in
set_option maxHeartbeats 4000000 in
theorem L_37 {L : Nat} {xs : Nat → Int32} {l : Launch} {n t dr tx bc bs : Nat} {w : zW} {i : Int} (hL0 : L < 2147483648) (h : zSim n t dr tx w) (hn : n ≤ 600) (i0 : 0 ≤ i) (i6 : i + 6 ≤ (L : Int)) (kk : ∀ (t2 dr2 tx2 : Nat) (w3 : zW), zSim (n + 1) t2 dr2 tx2 w3 → zB L xs l mL_law false 16 bc bs QL zNo 3195 [zR 4000, zR 0, zR 73, zR 121, zI i, .null, .null] [] (ZZ t2 dr2 tx2) w3) : zB L xs l mL_law false 16 (bc + 3) (bs + 18) QL zNo 2419 [zR 4000, zR 0, zR 73, zR 121, zI i, .null, .null] [] (ZZ t dr tx) w := by
  have hp : zPr l n mX11_risk mX12_risk 1 0 false [zI (sc xs (i + 1)), zI (sc xs (i + 2)), zI (sc xs (i + 3))] t dr tx w := P_risk h (inR_t _) (inR_t _) (inR_t _)
  refine zB_aload_n dL_law_2419 rfl ?_
  refine zB_rd dL_law_2420 dL_law_2421 dL_law_2423 dL_law_2424 dL_law_2425 rfl rfl (by omega) (by omega) hL0 ?_
  refine zB_rd dL_law_2426 dL_law_2427 dL_law_2429 dL_law_2430 dL_law_2431 rfl rfl (by omega) (by omega) hL0 ?_
  refine zB_rd dL_law_2432 dL_law_2433 dL_law_2435 dL_law_2436 dL_law_2437 rfl rfl (by omega) (by omega) hL0 ?_
  refine zB_aload_n dL_law_2438 rfl ?_
  refine zB_callS (bc2 := bc) (bs2 := bs) (st := []) dL_law_2439 sL_risk kL_263 (w_risk hp) (by decide) rfl rfl (Nat.le_of_ble_eq_true rfl) ⟨Nat.add_comm _ _, Nat.add_comm _ _⟩ (fun v S1 w1 hq => ?_) (fun E S1 w1 hx => hx.elim)
  obtain ⟨k, rfl, ⟨hk0, hk2⟩, ⟨t1, dr1, tx1, rfl⟩, d2, Q2, hd2, hsp, hk⟩ := hq
  have hkr : inR k := inR_mk (by omega) (by omega)
  show zB L xs l mL_law false 16 bc bs QL zNo 2442 [zR 4000, zR 0, zR 73, zR 121, zI i, .null, .null] [zI k] (ZZ t1 dr1 tx1) w1
  refine zB_istore (lo1 := [zR 4000, zR 0, zR 73, zR 121, zI i, zI k, .null]) dL_law_2442 (by decide) rfl rfl ?_
  refine zB_aload_n dL_law_2444 rfl ?_
  refine zB_rd dL_law_2445 dL_law_2446 dL_law_2448 dL_law_2449 dL_law_2450 rfl rfl (by omega) (by omega) hL0 ?_
  refine zB_rd dL_law_2451 dL_law_2452 dL_law_2454 dL_law_2455 dL_law_2456 rfl rfl (by omega) (by omega) hL0 ?_
  refine zB_rd dL_law_2457 dL_law_2458 dL_law_2460 dL_law_2461 dL_law_2462 rfl rfl (by omega) (by omega) hL0 ?_
  refine zB_cV (st := []) dL_law_2463 vX12_risk kL_265 hsp (by omega) c73 rfl rfl (Nat.le_of_ble_eq_true rfl) rfl (fun v2 S2 w3 hq2 => ?_)
  obtain ⟨z, rfl, hzr, h73, h121, t2, dr2, tx2, rfl, hsim⟩ := hk v2 S2 w3 hq2
  show zB L xs l mL_law false 16 bc bs QL zNo 2466 [zR 4000, zR 0, zR 73, zR 121, zI i, zI k, .null] [zI z] (ZZ t2 dr2 tx2) w3
  refine zB_istore (lo1 := [zR 4000, zR 0, zR 73, zR 121, zI i, zI k, zI z]) dL_law_2466 (by decide) rfl rfl ?_
  refine zB_aload_n dL_law_2468 rfl ?_
  refine zB_cV (st := []) dL_law_2469 vX12_thrown kL_136 (m_thrown (w := w3)) (by decide) c73 rfl rfl (Nat.le_of_ble_eq_true rfl) rfl (fun v4 S4 w4 hq4 => ?_)
  obtain ⟨rfl, rfl, rfl⟩ := hq4
  show zB L xs l mL_law false 16 bc bs QL zNo 2472 [zR 4000, zR 0, zR 73, zR 121, zI i, zI k, zI z] [zI (w4 73 1)] (ZZ t2 dr2 tx2) w4
  rw [h73]
  refine zB_iload dL_law_2472 rfl ?_
  refine zB_icmp_eq (tgt := 2479) dL_law_2474 (by decide) hkr hkr (fun _ => ?_) (fun q => absurd rfl q)
  refine zB_iload dL_law_2479 rfl ?_
  refine zB_if_ne (tgt := 2503) dL_law_2481 (by decide) hkr (fun _ => ?_) (fun q => ?_)
  · refine zB_goto (tgt := 3195) dL_law_2503 (by decide) ?_
    refine zB_drop (lo1 := [zR 4000, zR 0, zR 73, zR 121, zI i, .null, zI z]) 5 rfl ?_
    refine zB_drop (lo1 := [zR 4000, zR 0, zR 73, zR 121, zI i, .null, .null]) 6 rfl ?_
    exact kk t2 dr2 tx2 w4 hsim
  · have h21 := h121 q
    rw [if_pos rfl] at h21
    refine zB_aload_n dL_law_2484 rfl ?_
    refine zB_iconst dL_law_2485 ?_
    refine zB_laload dL_law_2486 c121 (by decide) (by decide) (by decide) ?_
    refine zB_iload dL_law_2487 rfl ?_
    rw [h21]
    refine zB_if_eq (tgt := 2496) dL_law_2489 (by decide) hzr (fun hz0 => ?_) (fun hz0 => ?_)
    · rw [if_pos hz0]
      refine zB_lconst dL_law_2496 ?_
      refine zB_lcmp dL_law_2497 ⟨by decide, by decide⟩ ⟨by decide, by decide⟩ ?_
      refine zB_valI 0 (by simp) ?_
      refine zB_if_eq (tgt := 2503) dL_law_2498 (by decide) ⟨by decide, by decide⟩ (fun _ => ?_) (fun q => absurd rfl q)
      refine zB_goto (tgt := 3195) dL_law_2503 (by decide) ?_
      refine zB_drop (lo1 := [zR 4000, zR 0, zR 73, zR 121, zI i, .null, zI z]) 5 rfl ?_
      refine zB_drop (lo1 := [zR 4000, zR 0, zR 73, zR 121, zI i, .null, .null]) 6 rfl ?_
      exact kk t2 dr2 tx2 w4 hsim
    · rw [if_neg hz0]
      refine zB_lconst dL_law_2492 ?_
      refine zB_goto (tgt := 2497) dL_law_2493 (by decide) ?_
      refine zB_lcmp dL_law_2497 ⟨by decide, by decide⟩ ⟨by decide, by decide⟩ ?_
      refine zB_valI 0 (by simp) ?_
      refine zB_if_eq (tgt := 2503) dL_law_2498 (by decide) ⟨by decide, by decide⟩ (fun _ => ?_) (fun q => absurd rfl q)
      refine zB_goto (tgt := 3195) dL_law_2503 (by decide) ?_
      refine zB_drop (lo1 := [zR 4000, zR 0, zR 73, zR 121, zI i, .null, zI z]) 5 rfl ?_
      refine zB_drop (lo1 := [zR 4000, zR 0, zR 73, zR 121, zI i, .null, .null]) 6 rfl ?_
      exact kk t2 dr2 tx2 w4 hsim
set_option maxRecDepth 100000 in
set_option maxHeartbeats 4000000 in
theorem L_38 {L : Nat} {xs : Nat → Int32} {l : Launch} {n t dr tx bc bs : Nat} {w : zW} {i : Int} (hL0 : L < 2147483648) (h : zSim n t dr tx w) (hn : n ≤ 600) (i0 : 0 ≤ i) (i6 : i + 6 ≤ (L : Int)) (kk : ∀ (t2 dr2 tx2 : Nat) (w3 : zW), zSim (n + 1) t2 dr2 tx2 w3 → zB L xs l mL_law false 16 bc bs QL zNo 3195 [zR 4000, zR 0, zR 73, zR 121, zI i, .null, .null] [] (ZZ t2 dr2 tx2) w3) : zB L xs l mL_law false 16 (bc + 3) (bs + 18) QL zNo 2506 [zR 4000, zR 0, zR 73, zR 121, zI i, .null, .null] [] (ZZ t dr tx) w := by
  obtain ⟨d, bc', bs', Q, X, ⟨hd, hbc, hbs⟩, hs, hret, hthr⟩ : zPr l n mX11_order mX12_order 0 0 false [zI (sc xs (i + 1))] t dr tx w := P_order h (inR_t _)
  refine zB_aload_n dL_law_2506 rfl ?_
  refine zB_rd dL_law_2507 dL_law_2508 dL_law_2510 dL_law_2511 dL_law_2512 rfl rfl (by omega) (by omega) hL0 ?_
  refine zB_callV (bc2 := bc + 3 - bc') (bs2 := bs + 18 - bs') (st := []) dL_law_2513 vX11_order kL_266 hs (by omega) rfl rfl (Nat.le_of_ble_eq_true rfl) c0 rfl ⟨by omega, by omega⟩ (fun v S1 w1 hq => ?_) (fun E S1 w1 hx => ?_)
  · obtain ⟨⟨t1, dr1, tx1, rfl⟩, hv, d2, Q2, hd2, hsp, hk⟩ := hret v S1 w1 hq w1 (fun _ _ _ => rfl)
    obtain ⟨z0, rfl⟩ : ∃ z, v = some (zI z) := hv
    obtain ⟨z, hz, hzr⟩ := zI_in z0
    show zB L xs l mL_law false 16 (bc + 3 - bc') (bs + 18 - bs') QL zNo 2516 [zR 4000, zR 0, zR 73, zR 121, zI i, .null, .null] [zI z0] (ZZ t1 dr1 tx1) w1
    rw [hz]
    refine zB_aload_n dL_law_2516 rfl ?_
    refine zB_rd dL_law_2517 dL_law_2518 dL_law_2520 dL_law_2521 dL_law_2522 rfl rfl (by omega) (by omega) hL0 ?_
    refine zB_cV (st := [zI z]) dL_law_2523 vX12_order kL_269 hsp (by omega) c73 rfl rfl (Nat.le_of_ble_eq_true rfl) rfl (fun v2 S2 w3 hq2 => ?_)
    obtain ⟨rfl, h1, h2, t2, dr2, tx2, rfl, hsim⟩ := hk v2 S2 w3 hq2
    show zB L xs l mL_law false 16 (bc + 3 - bc') (bs + 18 - bs') QL zNo 2526 [zR 4000, zR 0, zR 73, zR 121, zI i, .null, .null] [zI z0, zI z] (ZZ t2 dr2 tx2) w3
    rw [hz]
    refine zB_icmp_eq (tgt := 3195) dL_law_2526 (by decide) hzr hzr (fun _ => ?_) (fun q => absurd rfl q)
    exact zB_wk (by omega) (by omega) (kk t2 dr2 tx2 w3 hsim)
  · obtain ⟨k, ⟨-, -, h0⟩ | ⟨-, -, h0⟩, -⟩ := hthr E S1 w1 hx
    · exact absurd rfl h0
    · exact absurd rfl h0
set_option maxRecDepth 100000 in
set_option maxHeartbeats 4000000 in
theorem L_39 {L : Nat} {xs : Nat → Int32} {l : Launch} {n t dr tx bc bs : Nat} {w : zW} {i : Int} (hL0 : L < 2147483648) (h : zSim n t dr tx w) (hn : n ≤ 600) (i0 : 0 ≤ i) (i6 : i + 6 ≤ (L : Int)) (kk : ∀ (t2 dr2 tx2 : Nat) (w3 : zW), zSim (n + 1) t2 dr2 tx2 w3 → zB L xs l mL_law false 16 bc bs QL zNo 3195 [zR 4000, zR 0, zR 73, zR 121, zI i, .null, .null] [] (ZZ t2 dr2 tx2) w3) : zB L xs l mL_law false 16 (bc + 3) (bs + 18) QL zNo 2531 [zR 4000, zR 0, zR 73, zR 121, zI i, .null, .null] [] (ZZ t dr tx) w := by
  have hp : zPr l n mX11_ordered mX12_ordered 1 0 false [zI (sc xs (i + 1))] t dr tx w := P_ordered h (inR_t _)
  refine zB_aload_n dL_law_2531 rfl ?_
  refine zB_rd dL_law_2532 dL_law_2533 dL_law_2535 dL_law_2536 dL_law_2537 rfl rfl (by omega) (by omega) hL0 ?_
  refine zB_aload_n dL_law_2538 rfl ?_
  refine zB_callS (bc2 := bc) (bs2 := bs) (st := []) dL_law_2539 sL_ordered kL_270 (w_ordered hp) (by decide) rfl rfl (Nat.le_of_ble_eq_true rfl) ⟨Nat.add_comm _ _, Nat.add_comm _ _⟩ (fun v S1 w1 hq => ?_) (fun E S1 w1 hx => hx.elim)
  obtain ⟨k, rfl, ⟨hk0, hk2⟩, ⟨t1, dr1, tx1, rfl⟩, d2, Q2, hd2, hsp, hk⟩ := hq
  have hkr : inR k := inR_mk (by omega) (by omega)
  show zB L xs l mL_law false 16 bc bs QL zNo 2542 [zR 4000, zR 0, zR 73, zR 121, zI i, .null, .null] [zI k] (ZZ t1 dr1 tx1) w1
  refine zB_istore (lo1 := [zR 4000, zR 0, zR 73, zR 121, zI i, zI k, .null]) dL_law_2542 (by decide) rfl rfl ?_
  refine zB_aload_n dL_law_2544 rfl ?_
  refine zB_rd dL_law_2545 dL_law_2546 dL_law_2548 dL_law_2549 dL_law_2550 rfl rfl (by omega) (by omega) hL0 ?_
  refine zB_cV (st := []) dL_law_2551 vX12_ordered kL_272 hsp (by omega) c73 rfl rfl (Nat.le_of_ble_eq_true rfl) rfl (fun v2 S2 w3 hq2 => ?_)
  obtain ⟨z, rfl, hzr, h73, h121, t2, dr2, tx2, rfl, hsim⟩ := hk v2 S2 w3 hq2
  show zB L xs l mL_law false 16 bc bs QL zNo 2554 [zR 4000, zR 0, zR 73, zR 121, zI i, zI k, .null] [zI z] (ZZ t2 dr2 tx2) w3
  refine zB_istore (lo1 := [zR 4000, zR 0, zR 73, zR 121, zI i, zI k, zI z]) dL_law_2554 (by decide) rfl rfl ?_
  refine zB_aload_n dL_law_2556 rfl ?_
  refine zB_cV (st := []) dL_law_2557 vX12_thrown kL_136 (m_thrown (w := w3)) (by decide) c73 rfl rfl (Nat.le_of_ble_eq_true rfl) rfl (fun v4 S4 w4 hq4 => ?_)
  obtain ⟨rfl, rfl, rfl⟩ := hq4
  show zB L xs l mL_law false 16 bc bs QL zNo 2560 [zR 4000, zR 0, zR 73, zR 121, zI i, zI k, zI z] [zI (w4 73 1)] (ZZ t2 dr2 tx2) w4
  rw [h73]
  refine zB_iload dL_law_2560 rfl ?_
  refine zB_icmp_eq (tgt := 2567) dL_law_2562 (by decide) hkr hkr (fun _ => ?_) (fun q => absurd rfl q)
  refine zB_iload dL_law_2567 rfl ?_
  refine zB_if_ne (tgt := 2584) dL_law_2569 (by decide) hkr (fun _ => ?_) (fun q => ?_)
  · refine zB_goto (tgt := 3195) dL_law_2584 (by decide) ?_
    refine zB_drop (lo1 := [zR 4000, zR 0, zR 73, zR 121, zI i, .null, zI z]) 5 rfl ?_
    refine zB_drop (lo1 := [zR 4000, zR 0, zR 73, zR 121, zI i, .null, .null]) 6 rfl ?_
    exact kk t2 dr2 tx2 w4 hsim
  · have h21 := h121 q
    rw [if_neg (by decide)] at h21
    refine zB_aload_n dL_law_2572 rfl ?_
    refine zB_iconst dL_law_2573 ?_
    refine zB_laload dL_law_2574 c121 (by decide) (by decide) (by decide) ?_
    refine zB_iload dL_law_2575 rfl ?_
    rw [h21]
    have hzl : -9223372036854775808 ≤ z ∧ z < 9223372036854775808 := by have h1 := hzr.1; have h2 := hzr.2; omega
    refine zB_i2l dL_law_2577 hzr ?_
    refine zB_lcmp dL_law_2578 hzl hzl ?_
    refine zB_valI 0 (by simp) ?_
    refine zB_if_eq (tgt := 2584) dL_law_2579 (by decide) ⟨by decide, by decide⟩ (fun _ => ?_) (fun q => absurd rfl q)
    refine zB_goto (tgt := 3195) dL_law_2584 (by decide) ?_
    refine zB_drop (lo1 := [zR 4000, zR 0, zR 73, zR 121, zI i, .null, zI z]) 5 rfl ?_
    refine zB_drop (lo1 := [zR 4000, zR 0, zR 73, zR 121, zI i, .null, .null]) 6 rfl ?_
    exact kk t2 dr2 tx2 w4 hsim
set_option maxRecDepth 100000 in
set_option maxHeartbeats 4000000 in
theorem L_40 {L : Nat} {xs : Nat → Int32} {l : Launch} {n t dr tx bc bs : Nat} {w : zW} {i : Int} (hL0 : L < 2147483648) (h : zSim n t dr tx w) (hn : n ≤ 600) (i0 : 0 ≤ i) (i6 : i + 6 ≤ (L : Int)) (kk : ∀ (t2 dr2 tx2 : Nat) (w3 : zW), zSim (n + 1) t2 dr2 tx2 w3 → zB L xs l mL_law false 16 bc bs QL zNo 3195 [zR 4000, zR 0, zR 73, zR 121, zI i, .null, .null] [] (ZZ t2 dr2 tx2) w3) : zB L xs l mL_law false 16 (bc + 3) (bs + 18) QL zNo 2587 [zR 4000, zR 0, zR 73, zR 121, zI i, .null, .null] [] (ZZ t dr tx) w := by
  have hp : zPr l n mX11_ladders mX12_ladders 1 2 false [zI (sc xs (i + 1)), zI (sc xs (i + 2))] t dr tx w := P_ladders h (inR_t _) (inR_t _)
  refine zB_aload_n dL_law_2587 rfl ?_
  refine zB_rd dL_law_2588 dL_law_2589 dL_law_2591 dL_law_2592 dL_law_2593 rfl rfl (by omega) (by omega) hL0 ?_
  refine zB_rd dL_law_2594 dL_law_2595 dL_law_2597 dL_law_2598 dL_law_2599 rfl rfl (by omega) (by omega) hL0 ?_
  refine zB_aload_n dL_law_2600 rfl ?_
  refine zB_callS (bc2 := bc) (bs2 := bs) (st := []) dL_law_2601 sL_ladders kL_273 (w_ladders hp) (by decide) rfl rfl (Nat.le_of_ble_eq_true rfl) ⟨Nat.add_comm _ _, Nat.add_comm _ _⟩ (fun v S1 w1 hq => ?_) (fun E S1 w1 hx => hx.elim)
  obtain ⟨k, rfl, ⟨hk0, hk2⟩, ⟨t1, dr1, tx1, rfl⟩, d2, Q2, hd2, hsp, hk⟩ := hq
  have hkr : inR k := inR_mk (by omega) (by omega)
  show zB L xs l mL_law false 16 bc bs QL zNo 2604 [zR 4000, zR 0, zR 73, zR 121, zI i, .null, .null] [zI k] (ZZ t1 dr1 tx1) w1
  refine zB_istore (lo1 := [zR 4000, zR 0, zR 73, zR 121, zI i, zI k, .null]) dL_law_2604 (by decide) rfl rfl ?_
  refine zB_aload_n dL_law_2606 rfl ?_
  refine zB_rd dL_law_2607 dL_law_2608 dL_law_2610 dL_law_2611 dL_law_2612 rfl rfl (by omega) (by omega) hL0 ?_
  refine zB_rd dL_law_2613 dL_law_2614 dL_law_2616 dL_law_2617 dL_law_2618 rfl rfl (by omega) (by omega) hL0 ?_
  refine zB_cV (st := []) dL_law_2619 vX12_ladders kL_275 hsp (by omega) c73 rfl rfl (Nat.le_of_ble_eq_true rfl) rfl (fun v2 S2 w3 hq2 => ?_)
  obtain ⟨z, rfl, hzr, h73, h121, t2, dr2, tx2, rfl, hsim⟩ := hk v2 S2 w3 hq2
  show zB L xs l mL_law false 16 bc bs QL zNo 2622 [zR 4000, zR 0, zR 73, zR 121, zI i, zI k, .null] [zI z] (ZZ t2 dr2 tx2) w3
  refine zB_istore (lo1 := [zR 4000, zR 0, zR 73, zR 121, zI i, zI k, zI z]) dL_law_2622 (by decide) rfl rfl ?_
  refine zB_aload_n dL_law_2624 rfl ?_
  refine zB_cV (st := []) dL_law_2625 vX12_thrown kL_136 (m_thrown (w := w3)) (by decide) c73 rfl rfl (Nat.le_of_ble_eq_true rfl) rfl (fun v4 S4 w4 hq4 => ?_)
  obtain ⟨rfl, rfl, rfl⟩ := hq4
  show zB L xs l mL_law false 16 bc bs QL zNo 2628 [zR 4000, zR 0, zR 73, zR 121, zI i, zI k, zI z] [zI (w4 73 1)] (ZZ t2 dr2 tx2) w4
  rw [h73]
  refine zB_iload dL_law_2628 rfl ?_
  refine zB_icmp_eq (tgt := 2635) dL_law_2630 (by decide) hkr hkr (fun _ => ?_) (fun q => absurd rfl q)
  refine zB_iload dL_law_2635 rfl ?_
  refine zB_if_ne (tgt := 2652) dL_law_2637 (by decide) hkr (fun _ => ?_) (fun q => ?_)
  · refine zB_goto (tgt := 3195) dL_law_2652 (by decide) ?_
    refine zB_drop (lo1 := [zR 4000, zR 0, zR 73, zR 121, zI i, .null, zI z]) 5 rfl ?_
    refine zB_drop (lo1 := [zR 4000, zR 0, zR 73, zR 121, zI i, .null, .null]) 6 rfl ?_
    exact kk t2 dr2 tx2 w4 hsim
  · have h21 := h121 q
    rw [if_neg (by decide)] at h21
    refine zB_aload_n dL_law_2640 rfl ?_
    refine zB_iconst dL_law_2641 ?_
    refine zB_laload dL_law_2642 c121 (by decide) (by decide) (by decide) ?_
    refine zB_iload dL_law_2643 rfl ?_
    rw [h21]
    have hzl : -9223372036854775808 ≤ z ∧ z < 9223372036854775808 := by have h1 := hzr.1; have h2 := hzr.2; omega
    refine zB_i2l dL_law_2645 hzr ?_
    refine zB_lcmp dL_law_2646 hzl hzl ?_
    refine zB_valI 0 (by simp) ?_
    refine zB_if_eq (tgt := 2652) dL_law_2647 (by decide) ⟨by decide, by decide⟩ (fun _ => ?_) (fun q => absurd rfl q)
    refine zB_goto (tgt := 3195) dL_law_2652 (by decide) ?_
    refine zB_drop (lo1 := [zR 4000, zR 0, zR 73, zR 121, zI i, .null, zI z]) 5 rfl ?_
    refine zB_drop (lo1 := [zR 4000, zR 0, zR 73, zR 121, zI i, .null, .null]) 6 rfl ?_
    exact kk t2 dr2 tx2 w4 hsim
set_option maxRecDepth 100000 in
set_option maxHeartbeats 4000000 in
theorem L_41 {L : Nat} {xs : Nat → Int32} {l : Launch} {n t dr tx bc bs : Nat} {w : zW} {i : Int} (hL0 : L < 2147483648) (h : zSim n t dr tx w) (hn : n ≤ 600) (i0 : 0 ≤ i) (i6 : i + 6 ≤ (L : Int)) (kk : ∀ (t2 dr2 tx2 : Nat) (w3 : zW), zSim (n + 1) t2 dr2 tx2 w3 → zB L xs l mL_law false 16 bc bs QL zNo 3195 [zR 4000, zR 0, zR 73, zR 121, zI i, .null, .null] [] (ZZ t2 dr2 tx2) w3) : zB L xs l mL_law false 16 (bc + 3) (bs + 18) QL zNo 2655 [zR 4000, zR 0, zR 73, zR 121, zI i, .null, .null] [] (ZZ t dr tx) w := by
  have hp : zPr l n mX11_out mX12_out 0 1 false [zI (sc xs (i + 1)), zI (sc xs (i + 2))] t dr tx w := P_out h (inR_t _) (inR_t _)
  refine zB_aload_n dL_law_2655 rfl ?_
  refine zB_rd dL_law_2656 dL_law_2657 dL_law_2659 dL_law_2660 dL_law_2661 rfl rfl (by omega) (by omega) hL0 ?_
  refine zB_rd dL_law_2662 dL_law_2663 dL_law_2665 dL_law_2666 dL_law_2667 rfl rfl (by omega) (by omega) hL0 ?_
  refine zB_aload_n dL_law_2668 rfl ?_
  refine zB_callS (bc2 := bc) (bs2 := bs) (st := []) dL_law_2669 sL_out kL_276 (w_out hp) (by decide) rfl rfl (Nat.le_of_ble_eq_true rfl) ⟨Nat.add_comm _ _, Nat.add_comm _ _⟩ (fun v S1 w1 hq => ?_) (fun E S1 w1 hx => hx.elim)
  obtain ⟨k, rfl, ⟨hk0, hk2⟩, ⟨t1, dr1, tx1, rfl⟩, d2, Q2, hd2, hsp, hk⟩ := hq
  have hkr : inR k := inR_mk (by omega) (by omega)
  show zB L xs l mL_law false 16 bc bs QL zNo 2672 [zR 4000, zR 0, zR 73, zR 121, zI i, .null, .null] [zI k] (ZZ t1 dr1 tx1) w1
  refine zB_istore (lo1 := [zR 4000, zR 0, zR 73, zR 121, zI i, zI k, .null]) dL_law_2672 (by decide) rfl rfl ?_
  refine zB_aload_n dL_law_2674 rfl ?_
  refine zB_rd dL_law_2675 dL_law_2676 dL_law_2678 dL_law_2679 dL_law_2680 rfl rfl (by omega) (by omega) hL0 ?_
  refine zB_rd dL_law_2681 dL_law_2682 dL_law_2684 dL_law_2685 dL_law_2686 rfl rfl (by omega) (by omega) hL0 ?_
  refine zB_cV (st := []) dL_law_2687 vX12_out kL_278 hsp (by omega) c73 rfl rfl (Nat.le_of_ble_eq_true rfl) rfl (fun v2 S2 w3 hq2 => ?_)
  obtain ⟨z, rfl, hzr, h73, h121, t2, dr2, tx2, rfl, hsim⟩ := hk v2 S2 w3 hq2
  show zB L xs l mL_law false 16 bc bs QL zNo 2690 [zR 4000, zR 0, zR 73, zR 121, zI i, zI k, .null] [zI z] (ZZ t2 dr2 tx2) w3
  refine zB_istore (lo1 := [zR 4000, zR 0, zR 73, zR 121, zI i, zI k, zI z]) dL_law_2690 (by decide) rfl rfl ?_
  refine zB_aload_n dL_law_2692 rfl ?_
  refine zB_cV (st := []) dL_law_2693 vX12_thrown kL_136 (m_thrown (w := w3)) (by decide) c73 rfl rfl (Nat.le_of_ble_eq_true rfl) rfl (fun v4 S4 w4 hq4 => ?_)
  obtain ⟨rfl, rfl, rfl⟩ := hq4
  show zB L xs l mL_law false 16 bc bs QL zNo 2696 [zR 4000, zR 0, zR 73, zR 121, zI i, zI k, zI z] [zI (w4 73 1)] (ZZ t2 dr2 tx2) w4
  rw [h73]
  refine zB_iload dL_law_2696 rfl ?_
  refine zB_icmp_eq (tgt := 2703) dL_law_2698 (by decide) hkr hkr (fun _ => ?_) (fun q => absurd rfl q)
  refine zB_iload dL_law_2703 rfl ?_
  refine zB_if_ne (tgt := 2720) dL_law_2705 (by decide) hkr (fun _ => ?_) (fun q => ?_)
  · refine zB_goto (tgt := 3195) dL_law_2720 (by decide) ?_
    refine zB_drop (lo1 := [zR 4000, zR 0, zR 73, zR 121, zI i, .null, zI z]) 5 rfl ?_
    refine zB_drop (lo1 := [zR 4000, zR 0, zR 73, zR 121, zI i, .null, .null]) 6 rfl ?_
    exact kk t2 dr2 tx2 w4 hsim
  · have h21 := h121 q
    rw [if_neg (by decide)] at h21
    refine zB_aload_n dL_law_2708 rfl ?_
    refine zB_iconst dL_law_2709 ?_
    refine zB_laload dL_law_2710 c121 (by decide) (by decide) (by decide) ?_
    refine zB_iload dL_law_2711 rfl ?_
    rw [h21]
    have hzl : -9223372036854775808 ≤ z ∧ z < 9223372036854775808 := by have h1 := hzr.1; have h2 := hzr.2; omega
    refine zB_i2l dL_law_2713 hzr ?_
    refine zB_lcmp dL_law_2714 hzl hzl ?_
    refine zB_valI 0 (by simp) ?_
    refine zB_if_eq (tgt := 2720) dL_law_2715 (by decide) ⟨by decide, by decide⟩ (fun _ => ?_) (fun q => absurd rfl q)
    refine zB_goto (tgt := 3195) dL_law_2720 (by decide) ?_
    refine zB_drop (lo1 := [zR 4000, zR 0, zR 73, zR 121, zI i, .null, zI z]) 5 rfl ?_
    refine zB_drop (lo1 := [zR 4000, zR 0, zR 73, zR 121, zI i, .null, .null]) 6 rfl ?_
    exact kk t2 dr2 tx2 w4 hsim
set_option maxRecDepth 100000 in
set_option maxHeartbeats 4000000 in
theorem L_42 {L : Nat} {xs : Nat → Int32} {l : Launch} {n t dr tx bc bs : Nat} {w : zW} {i : Int} (hL0 : L < 2147483648) (h : zSim n t dr tx w) (hn : n ≤ 600) (i0 : 0 ≤ i) (i6 : i + 6 ≤ (L : Int)) (kk : ∀ (t2 dr2 tx2 : Nat) (w3 : zW), zSim (n + 1) t2 dr2 tx2 w3 → zB L xs l mL_law false 16 bc bs QL zNo 3195 [zR 4000, zR 0, zR 73, zR 121, zI i, .null, .null] [] (ZZ t2 dr2 tx2) w3) : zB L xs l mL_law false 16 (bc + 3) (bs + 18) QL zNo 2723 [zR 4000, zR 0, zR 73, zR 121, zI i, .null, .null] [] (ZZ t dr tx) w := by
  obtain ⟨d, bc', bs', Q, X, ⟨hd, hbc, hbs⟩, hs, hret, hthr⟩ : zPr l n mX11_even mX12_even 0 0 false [zI (sc xs (i + 1))] t dr tx w := P_even h (inR_t _)
  refine zB_aload_n dL_law_2723 rfl ?_
  refine zB_rd dL_law_2724 dL_law_2725 dL_law_2727 dL_law_2728 dL_law_2729 rfl rfl (by omega) (by omega) hL0 ?_
  refine zB_callV (bc2 := bc + 3 - bc') (bs2 := bs + 18 - bs') (st := []) dL_law_2730 vX11_even kL_279 hs (by omega) rfl rfl (Nat.le_of_ble_eq_true rfl) c0 rfl ⟨by omega, by omega⟩ (fun v S1 w1 hq => ?_) (fun E S1 w1 hx => ?_)
  · obtain ⟨⟨t1, dr1, tx1, rfl⟩, hv, d2, Q2, hd2, hsp, hk⟩ := hret v S1 w1 hq w1 (fun _ _ _ => rfl)
    obtain ⟨z0, rfl⟩ : ∃ z, v = some (zI z) := hv
    obtain ⟨z, hz, hzr⟩ := zI_in z0
    show zB L xs l mL_law false 16 (bc + 3 - bc') (bs + 18 - bs') QL zNo 2733 [zR 4000, zR 0, zR 73, zR 121, zI i, .null, .null] [zI z0] (ZZ t1 dr1 tx1) w1
    rw [hz]
    refine zB_aload_n dL_law_2733 rfl ?_
    refine zB_rd dL_law_2734 dL_law_2735 dL_law_2737 dL_law_2738 dL_law_2739 rfl rfl (by omega) (by omega) hL0 ?_
    refine zB_cV (st := [zI z]) dL_law_2740 vX12_even kL_282 hsp (by omega) c73 rfl rfl (Nat.le_of_ble_eq_true rfl) rfl (fun v2 S2 w3 hq2 => ?_)
    obtain ⟨rfl, h1, h2, t2, dr2, tx2, rfl, hsim⟩ := hk v2 S2 w3 hq2
    show zB L xs l mL_law false 16 (bc + 3 - bc') (bs + 18 - bs') QL zNo 2743 [zR 4000, zR 0, zR 73, zR 121, zI i, .null, .null] [zI z0, zI z] (ZZ t2 dr2 tx2) w3
    rw [hz]
    refine zB_icmp_eq (tgt := 3195) dL_law_2743 (by decide) hzr hzr (fun _ => ?_) (fun q => absurd rfl q)
    exact zB_wk (by omega) (by omega) (kk t2 dr2 tx2 w3 hsim)
  · obtain ⟨k, ⟨-, -, h0⟩ | ⟨-, -, h0⟩, -⟩ := hthr E S1 w1 hx
    · exact absurd rfl h0
    · exact absurd rfl h0
set_option maxRecDepth 100000 in
set_option maxHeartbeats 4000000 in
theorem L_43 {L : Nat} {xs : Nat → Int32} {l : Launch} {n t dr tx bc bs : Nat} {w : zW} {i : Int} (hL0 : L < 2147483648) (h : zSim n t dr tx w) (hn : n ≤ 600) (i0 : 0 ≤ i) (i6 : i + 6 ≤ (L : Int)) (kk : ∀ (t2 dr2 tx2 : Nat) (w3 : zW), zSim (n + 1) t2 dr2 tx2 w3 → zB L xs l mL_law false 16 bc bs QL zNo 3195 [zR 4000, zR 0, zR 73, zR 121, zI i, .null, .null] [] (ZZ t2 dr2 tx2) w3) : zB L xs l mL_law false 16 (bc + 3) (bs + 18) QL zNo 2748 [zR 4000, zR 0, zR 73, zR 121, zI i, .null, .null] [] (ZZ t dr tx) w := by
  have hp : zPr l n mX11_gang mX12_gang 1 0 false [zI (sc xs (i + 1))] t dr tx w := P_gang h (inR_t _)
  refine zB_aload_n dL_law_2748 rfl ?_
  refine zB_rd dL_law_2749 dL_law_2750 dL_law_2752 dL_law_2753 dL_law_2754 rfl rfl (by omega) (by omega) hL0 ?_
  refine zB_aload_n dL_law_2755 rfl ?_
  refine zB_callS (bc2 := bc) (bs2 := bs) (st := []) dL_law_2756 sL_gang kL_283 (w_gang hp) (by decide) rfl rfl (Nat.le_of_ble_eq_true rfl) ⟨Nat.add_comm _ _, Nat.add_comm _ _⟩ (fun v S1 w1 hq => ?_) (fun E S1 w1 hx => hx.elim)
  obtain ⟨k, rfl, ⟨hk0, hk2⟩, ⟨t1, dr1, tx1, rfl⟩, d2, Q2, hd2, hsp, hk⟩ := hq
  have hkr : inR k := inR_mk (by omega) (by omega)
  show zB L xs l mL_law false 16 bc bs QL zNo 2759 [zR 4000, zR 0, zR 73, zR 121, zI i, .null, .null] [zI k] (ZZ t1 dr1 tx1) w1
  refine zB_istore (lo1 := [zR 4000, zR 0, zR 73, zR 121, zI i, zI k, .null]) dL_law_2759 (by decide) rfl rfl ?_
  refine zB_aload_n dL_law_2761 rfl ?_
  refine zB_rd dL_law_2762 dL_law_2763 dL_law_2765 dL_law_2766 dL_law_2767 rfl rfl (by omega) (by omega) hL0 ?_
  refine zB_cV (st := []) dL_law_2768 vX12_gang kL_285 hsp (by omega) c73 rfl rfl (Nat.le_of_ble_eq_true rfl) rfl (fun v2 S2 w3 hq2 => ?_)
  obtain ⟨z, rfl, hzr, h73, h121, t2, dr2, tx2, rfl, hsim⟩ := hk v2 S2 w3 hq2
  show zB L xs l mL_law false 16 bc bs QL zNo 2771 [zR 4000, zR 0, zR 73, zR 121, zI i, zI k, .null] [zI z] (ZZ t2 dr2 tx2) w3
  refine zB_istore (lo1 := [zR 4000, zR 0, zR 73, zR 121, zI i, zI k, zI z]) dL_law_2771 (by decide) rfl rfl ?_
  refine zB_aload_n dL_law_2773 rfl ?_
  refine zB_cV (st := []) dL_law_2774 vX12_thrown kL_136 (m_thrown (w := w3)) (by decide) c73 rfl rfl (Nat.le_of_ble_eq_true rfl) rfl (fun v4 S4 w4 hq4 => ?_)
  obtain ⟨rfl, rfl, rfl⟩ := hq4
  show zB L xs l mL_law false 16 bc bs QL zNo 2777 [zR 4000, zR 0, zR 73, zR 121, zI i, zI k, zI z] [zI (w4 73 1)] (ZZ t2 dr2 tx2) w4
  rw [h73]
  refine zB_iload dL_law_2777 rfl ?_
  refine zB_icmp_eq (tgt := 2784) dL_law_2779 (by decide) hkr hkr (fun _ => ?_) (fun q => absurd rfl q)
  refine zB_iload dL_law_2784 rfl ?_
  refine zB_if_ne (tgt := 2801) dL_law_2786 (by decide) hkr (fun _ => ?_) (fun q => ?_)
  · refine zB_goto (tgt := 3195) dL_law_2801 (by decide) ?_
    refine zB_drop (lo1 := [zR 4000, zR 0, zR 73, zR 121, zI i, .null, zI z]) 5 rfl ?_
    refine zB_drop (lo1 := [zR 4000, zR 0, zR 73, zR 121, zI i, .null, .null]) 6 rfl ?_
    exact kk t2 dr2 tx2 w4 hsim
  · have h21 := h121 q
    rw [if_neg (by decide)] at h21
    refine zB_aload_n dL_law_2789 rfl ?_
    refine zB_iconst dL_law_2790 ?_
    refine zB_laload dL_law_2791 c121 (by decide) (by decide) (by decide) ?_
    refine zB_iload dL_law_2792 rfl ?_
    rw [h21]
    have hzl : -9223372036854775808 ≤ z ∧ z < 9223372036854775808 := by have h1 := hzr.1; have h2 := hzr.2; omega
    refine zB_i2l dL_law_2794 hzr ?_
    refine zB_lcmp dL_law_2795 hzl hzl ?_
    refine zB_valI 0 (by simp) ?_
    refine zB_if_eq (tgt := 2801) dL_law_2796 (by decide) ⟨by decide, by decide⟩ (fun _ => ?_) (fun q => absurd rfl q)
    refine zB_goto (tgt := 3195) dL_law_2801 (by decide) ?_
    refine zB_drop (lo1 := [zR 4000, zR 0, zR 73, zR 121, zI i, .null, zI z]) 5 rfl ?_
    refine zB_drop (lo1 := [zR 4000, zR 0, zR 73, zR 121, zI i, .null, .null]) 6 rfl ?_
    exact kk t2 dr2 tx2 w4 hsim
set_option maxRecDepth 100000 in
set_option maxHeartbeats 4000000 in
theorem L_44 {L : Nat} {xs : Nat → Int32} {l : Launch} {n t dr tx bc bs : Nat} {w : zW} {i : Int} (hL0 : L < 2147483648) (h : zSim n t dr tx w) (hn : n ≤ 600) (i0 : 0 ≤ i) (i6 : i + 6 ≤ (L : Int)) (kk : ∀ (t2 dr2 tx2 : Nat) (w3 : zW), zSim (n + 1) t2 dr2 tx2 w3 → zB L xs l mL_law false 16 bc bs QL zNo 3195 [zR 4000, zR 0, zR 73, zR 121, zI i, .null, .null] [] (ZZ t2 dr2 tx2) w3) : zB L xs l mL_law false 16 (bc + 3) (bs + 18) QL zNo 2804 [zR 4000, zR 0, zR 73, zR 121, zI i, .null, .null] [] (ZZ t dr tx) w := by
  have hp : zPr l n mX11_means mX12_means 1 0 false [zI (sc xs (i + 1)), zI (sc xs (i + 2))] t dr tx w := P_means h (inR_t _) (inR_t _)
  refine zB_aload_n dL_law_2804 rfl ?_
  refine zB_rd dL_law_2805 dL_law_2806 dL_law_2808 dL_law_2809 dL_law_2810 rfl rfl (by omega) (by omega) hL0 ?_
  refine zB_rd dL_law_2811 dL_law_2812 dL_law_2814 dL_law_2815 dL_law_2816 rfl rfl (by omega) (by omega) hL0 ?_
  refine zB_aload_n dL_law_2817 rfl ?_
  refine zB_callS (bc2 := bc) (bs2 := bs) (st := []) dL_law_2818 sL_means kL_286 (w_means hp) (by decide) rfl rfl (Nat.le_of_ble_eq_true rfl) ⟨Nat.add_comm _ _, Nat.add_comm _ _⟩ (fun v S1 w1 hq => ?_) (fun E S1 w1 hx => hx.elim)
  obtain ⟨k, rfl, ⟨hk0, hk2⟩, ⟨t1, dr1, tx1, rfl⟩, d2, Q2, hd2, hsp, hk⟩ := hq
  have hkr : inR k := inR_mk (by omega) (by omega)
  show zB L xs l mL_law false 16 bc bs QL zNo 2821 [zR 4000, zR 0, zR 73, zR 121, zI i, .null, .null] [zI k] (ZZ t1 dr1 tx1) w1
  refine zB_istore (lo1 := [zR 4000, zR 0, zR 73, zR 121, zI i, zI k, .null]) dL_law_2821 (by decide) rfl rfl ?_
  refine zB_aload_n dL_law_2823 rfl ?_
  refine zB_rd dL_law_2824 dL_law_2825 dL_law_2827 dL_law_2828 dL_law_2829 rfl rfl (by omega) (by omega) hL0 ?_
  refine zB_rd dL_law_2830 dL_law_2831 dL_law_2833 dL_law_2834 dL_law_2835 rfl rfl (by omega) (by omega) hL0 ?_
  refine zB_cV (st := []) dL_law_2836 vX12_means kL_288 hsp (by omega) c73 rfl rfl (Nat.le_of_ble_eq_true rfl) rfl (fun v2 S2 w3 hq2 => ?_)
  obtain ⟨z, rfl, hzr, h73, h121, t2, dr2, tx2, rfl, hsim⟩ := hk v2 S2 w3 hq2
  show zB L xs l mL_law false 16 bc bs QL zNo 2839 [zR 4000, zR 0, zR 73, zR 121, zI i, zI k, .null] [zI z] (ZZ t2 dr2 tx2) w3
  refine zB_istore (lo1 := [zR 4000, zR 0, zR 73, zR 121, zI i, zI k, zI z]) dL_law_2839 (by decide) rfl rfl ?_
  refine zB_aload_n dL_law_2841 rfl ?_
  refine zB_cV (st := []) dL_law_2842 vX12_thrown kL_136 (m_thrown (w := w3)) (by decide) c73 rfl rfl (Nat.le_of_ble_eq_true rfl) rfl (fun v4 S4 w4 hq4 => ?_)
  obtain ⟨rfl, rfl, rfl⟩ := hq4
  show zB L xs l mL_law false 16 bc bs QL zNo 2845 [zR 4000, zR 0, zR 73, zR 121, zI i, zI k, zI z] [zI (w4 73 1)] (ZZ t2 dr2 tx2) w4
  rw [h73]
  refine zB_iload dL_law_2845 rfl ?_
  refine zB_icmp_eq (tgt := 2852) dL_law_2847 (by decide) hkr hkr (fun _ => ?_) (fun q => absurd rfl q)
  refine zB_iload dL_law_2852 rfl ?_
  refine zB_if_ne (tgt := 2876) dL_law_2854 (by decide) hkr (fun _ => ?_) (fun q => ?_)
  · refine zB_goto (tgt := 3195) dL_law_2876 (by decide) ?_
    refine zB_drop (lo1 := [zR 4000, zR 0, zR 73, zR 121, zI i, .null, zI z]) 5 rfl ?_
    refine zB_drop (lo1 := [zR 4000, zR 0, zR 73, zR 121, zI i, .null, .null]) 6 rfl ?_
    exact kk t2 dr2 tx2 w4 hsim
  · have h21 := h121 q
    rw [if_pos rfl] at h21
    refine zB_aload_n dL_law_2857 rfl ?_
    refine zB_iconst dL_law_2858 ?_
    refine zB_laload dL_law_2859 c121 (by decide) (by decide) (by decide) ?_
    refine zB_iload dL_law_2860 rfl ?_
    rw [h21]
    refine zB_if_eq (tgt := 2869) dL_law_2862 (by decide) hzr (fun hz0 => ?_) (fun hz0 => ?_)
    · rw [if_pos hz0]
      refine zB_lconst dL_law_2869 ?_
      refine zB_lcmp dL_law_2870 ⟨by decide, by decide⟩ ⟨by decide, by decide⟩ ?_
      refine zB_valI 0 (by simp) ?_
      refine zB_if_eq (tgt := 2876) dL_law_2871 (by decide) ⟨by decide, by decide⟩ (fun _ => ?_) (fun q => absurd rfl q)
      refine zB_goto (tgt := 3195) dL_law_2876 (by decide) ?_
      refine zB_drop (lo1 := [zR 4000, zR 0, zR 73, zR 121, zI i, .null, zI z]) 5 rfl ?_
      refine zB_drop (lo1 := [zR 4000, zR 0, zR 73, zR 121, zI i, .null, .null]) 6 rfl ?_
      exact kk t2 dr2 tx2 w4 hsim
    · rw [if_neg hz0]
      refine zB_lconst dL_law_2865 ?_
      refine zB_goto (tgt := 2870) dL_law_2866 (by decide) ?_
      refine zB_lcmp dL_law_2870 ⟨by decide, by decide⟩ ⟨by decide, by decide⟩ ?_
      refine zB_valI 0 (by simp) ?_
      refine zB_if_eq (tgt := 2876) dL_law_2871 (by decide) ⟨by decide, by decide⟩ (fun _ => ?_) (fun q => absurd rfl q)
      refine zB_goto (tgt := 3195) dL_law_2876 (by decide) ?_
      refine zB_drop (lo1 := [zR 4000, zR 0, zR 73, zR 121, zI i, .null, zI z]) 5 rfl ?_
      refine zB_drop (lo1 := [zR 4000, zR 0, zR 73, zR 121, zI i, .null, .null]) 6 rfl ?_
      exact kk t2 dr2 tx2 w4 hsim
set_option maxRecDepth 100000 in
set_option maxHeartbeats 4000000 in
theorem L_45 {L : Nat} {xs : Nat → Int32} {l : Launch} {n t dr tx bc bs : Nat} {w : zW} {i : Int} (hL0 : L < 2147483648) (h : zSim n t dr tx w) (hn : n ≤ 600) (i0 : 0 ≤ i) (i6 : i + 6 ≤ (L : Int)) (kk : ∀ (t2 dr2 tx2 : Nat) (w3 : zW), zSim (n + 1) t2 dr2 tx2 w3 → zB L xs l mL_law false 16 bc bs QL zNo 3195 [zR 4000, zR 0, zR 73, zR 121, zI i, .null, .null] [] (ZZ t2 dr2 tx2) w3) : zB L xs l mL_law false 16 (bc + 3) (bs + 18) QL zNo 2879 [zR 4000, zR 0, zR 73, zR 121, zI i, .null, .null] [] (ZZ t dr tx) w := by
  have hp : zPr l n mX11_part mX12_part 1 0 false [zI (sc xs (i + 1)), zI (sc xs (i + 2)), zI (sc xs (i + 3))] t dr tx w := P_part h (inR_t _) (inR_t _) (inR_t _)
  refine zB_aload_n dL_law_2879 rfl ?_
  refine zB_rd dL_law_2880 dL_law_2881 dL_law_2883 dL_law_2884 dL_law_2885 rfl rfl (by omega) (by omega) hL0 ?_
  refine zB_rd dL_law_2886 dL_law_2887 dL_law_2889 dL_law_2890 dL_law_2891 rfl rfl (by omega) (by omega) hL0 ?_
  refine zB_rd dL_law_2892 dL_law_2893 dL_law_2895 dL_law_2896 dL_law_2897 rfl rfl (by omega) (by omega) hL0 ?_
  refine zB_aload_n dL_law_2898 rfl ?_
  refine zB_callS (bc2 := bc) (bs2 := bs) (st := []) dL_law_2899 sL_part kL_289 (w_part hp) (by decide) rfl rfl (Nat.le_of_ble_eq_true rfl) ⟨Nat.add_comm _ _, Nat.add_comm _ _⟩ (fun v S1 w1 hq => ?_) (fun E S1 w1 hx => hx.elim)
  obtain ⟨k, rfl, ⟨hk0, hk2⟩, ⟨t1, dr1, tx1, rfl⟩, d2, Q2, hd2, hsp, hk⟩ := hq
  have hkr : inR k := inR_mk (by omega) (by omega)
  show zB L xs l mL_law false 16 bc bs QL zNo 2902 [zR 4000, zR 0, zR 73, zR 121, zI i, .null, .null] [zI k] (ZZ t1 dr1 tx1) w1
  refine zB_istore (lo1 := [zR 4000, zR 0, zR 73, zR 121, zI i, zI k, .null]) dL_law_2902 (by decide) rfl rfl ?_
  refine zB_aload_n dL_law_2904 rfl ?_
  refine zB_rd dL_law_2905 dL_law_2906 dL_law_2908 dL_law_2909 dL_law_2910 rfl rfl (by omega) (by omega) hL0 ?_
  refine zB_rd dL_law_2911 dL_law_2912 dL_law_2914 dL_law_2915 dL_law_2916 rfl rfl (by omega) (by omega) hL0 ?_
  refine zB_rd dL_law_2917 dL_law_2918 dL_law_2920 dL_law_2921 dL_law_2922 rfl rfl (by omega) (by omega) hL0 ?_
  refine zB_cV (st := []) dL_law_2923 vX12_part kL_291 hsp (by omega) c73 rfl rfl (Nat.le_of_ble_eq_true rfl) rfl (fun v2 S2 w3 hq2 => ?_)
  obtain ⟨z, rfl, hzr, h73, h121, t2, dr2, tx2, rfl, hsim⟩ := hk v2 S2 w3 hq2
  show zB L xs l mL_law false 16 bc bs QL zNo 2926 [zR 4000, zR 0, zR 73, zR 121, zI i, zI k, .null] [zI z] (ZZ t2 dr2 tx2) w3
  refine zB_istore (lo1 := [zR 4000, zR 0, zR 73, zR 121, zI i, zI k, zI z]) dL_law_2926 (by decide) rfl rfl ?_
  refine zB_aload_n dL_law_2928 rfl ?_
  refine zB_cV (st := []) dL_law_2929 vX12_thrown kL_136 (m_thrown (w := w3)) (by decide) c73 rfl rfl (Nat.le_of_ble_eq_true rfl) rfl (fun v4 S4 w4 hq4 => ?_)
  obtain ⟨rfl, rfl, rfl⟩ := hq4
  show zB L xs l mL_law false 16 bc bs QL zNo 2932 [zR 4000, zR 0, zR 73, zR 121, zI i, zI k, zI z] [zI (w4 73 1)] (ZZ t2 dr2 tx2) w4
  rw [h73]
  refine zB_iload dL_law_2932 rfl ?_
  refine zB_icmp_eq (tgt := 2939) dL_law_2934 (by decide) hkr hkr (fun _ => ?_) (fun q => absurd rfl q)
  refine zB_iload dL_law_2939 rfl ?_
  refine zB_if_ne (tgt := 2963) dL_law_2941 (by decide) hkr (fun _ => ?_) (fun q => ?_)
  · refine zB_goto (tgt := 3195) dL_law_2963 (by decide) ?_
    refine zB_drop (lo1 := [zR 4000, zR 0, zR 73, zR 121, zI i, .null, zI z]) 5 rfl ?_
    refine zB_drop (lo1 := [zR 4000, zR 0, zR 73, zR 121, zI i, .null, .null]) 6 rfl ?_
    exact kk t2 dr2 tx2 w4 hsim
  · have h21 := h121 q
    rw [if_pos rfl] at h21
    refine zB_aload_n dL_law_2944 rfl ?_
    refine zB_iconst dL_law_2945 ?_
    refine zB_laload dL_law_2946 c121 (by decide) (by decide) (by decide) ?_
    refine zB_iload dL_law_2947 rfl ?_
    rw [h21]
    refine zB_if_eq (tgt := 2956) dL_law_2949 (by decide) hzr (fun hz0 => ?_) (fun hz0 => ?_)
    · rw [if_pos hz0]
      refine zB_lconst dL_law_2956 ?_
      refine zB_lcmp dL_law_2957 ⟨by decide, by decide⟩ ⟨by decide, by decide⟩ ?_
      refine zB_valI 0 (by simp) ?_
      refine zB_if_eq (tgt := 2963) dL_law_2958 (by decide) ⟨by decide, by decide⟩ (fun _ => ?_) (fun q => absurd rfl q)
      refine zB_goto (tgt := 3195) dL_law_2963 (by decide) ?_
      refine zB_drop (lo1 := [zR 4000, zR 0, zR 73, zR 121, zI i, .null, zI z]) 5 rfl ?_
      refine zB_drop (lo1 := [zR 4000, zR 0, zR 73, zR 121, zI i, .null, .null]) 6 rfl ?_
      exact kk t2 dr2 tx2 w4 hsim
    · rw [if_neg hz0]
      refine zB_lconst dL_law_2952 ?_
      refine zB_goto (tgt := 2957) dL_law_2953 (by decide) ?_
      refine zB_lcmp dL_law_2957 ⟨by decide, by decide⟩ ⟨by decide, by decide⟩ ?_
      refine zB_valI 0 (by simp) ?_
      refine zB_if_eq (tgt := 2963) dL_law_2958 (by decide) ⟨by decide, by decide⟩ (fun _ => ?_) (fun q => absurd rfl q)
      refine zB_goto (tgt := 3195) dL_law_2963 (by decide) ?_
      refine zB_drop (lo1 := [zR 4000, zR 0, zR 73, zR 121, zI i, .null, zI z]) 5 rfl ?_
      refine zB_drop (lo1 := [zR 4000, zR 0, zR 73, zR 121, zI i, .null, .null]) 6 rfl ?_
      exact kk t2 dr2 tx2 w4 hsim
set_option maxRecDepth 100000 in
set_option maxHeartbeats 4000000 in
theorem L_46 {L : Nat} {xs : Nat → Int32} {l : Launch} {n t dr tx bc bs : Nat} {w : zW} {i : Int} (hL0 : L < 2147483648) (h : zSim n t dr tx w) (hn : n ≤ 600) (i0 : 0 ≤ i) (i6 : i + 6 ≤ (L : Int)) (kk : ∀ (t2 dr2 tx2 : Nat) (w3 : zW), zSim (n + 1) t2 dr2 tx2 w3 → zB L xs l mL_law false 16 bc bs QL zNo 3195 [zR 4000, zR 0, zR 73, zR 121, zI i, .null, .null] [] (ZZ t2 dr2 tx2) w3) : zB L xs l mL_law false 16 (bc + 3) (bs + 18) QL zNo 2966 [zR 4000, zR 0, zR 73, zR 121, zI i, .null, .null] [] (ZZ t dr tx) w := by
  have hp : zPr l n mX11_bill mX12_bill 1 2 false [zI (sc xs (i + 1)), zI (sc xs (i + 2))] t dr tx w := P_bill h (inR_t _) (inR_t _)
  refine zB_aload_n dL_law_2966 rfl ?_
  refine zB_rd dL_law_2967 dL_law_2968 dL_law_2970 dL_law_2971 dL_law_2972 rfl rfl (by omega) (by omega) hL0 ?_
  refine zB_rd dL_law_2973 dL_law_2974 dL_law_2976 dL_law_2977 dL_law_2978 rfl rfl (by omega) (by omega) hL0 ?_
  refine zB_aload_n dL_law_2979 rfl ?_
  refine zB_callS (bc2 := bc) (bs2 := bs) (st := []) dL_law_2980 sL_bill kL_292 (w_bill hp) (by decide) rfl rfl (Nat.le_of_ble_eq_true rfl) ⟨Nat.add_comm _ _, Nat.add_comm _ _⟩ (fun v S1 w1 hq => ?_) (fun E S1 w1 hx => hx.elim)
  obtain ⟨k, rfl, ⟨hk0, hk2⟩, ⟨t1, dr1, tx1, rfl⟩, d2, Q2, hd2, hsp, hk⟩ := hq
  have hkr : inR k := inR_mk (by omega) (by omega)
  show zB L xs l mL_law false 16 bc bs QL zNo 2983 [zR 4000, zR 0, zR 73, zR 121, zI i, .null, .null] [zI k] (ZZ t1 dr1 tx1) w1
  refine zB_istore (lo1 := [zR 4000, zR 0, zR 73, zR 121, zI i, zI k, .null]) dL_law_2983 (by decide) rfl rfl ?_
  refine zB_aload_n dL_law_2985 rfl ?_
  refine zB_rd dL_law_2986 dL_law_2987 dL_law_2989 dL_law_2990 dL_law_2991 rfl rfl (by omega) (by omega) hL0 ?_
  refine zB_rd dL_law_2992 dL_law_2993 dL_law_2995 dL_law_2996 dL_law_2997 rfl rfl (by omega) (by omega) hL0 ?_
  refine zB_cV (st := []) dL_law_2998 vX12_bill kL_294 hsp (by omega) c73 rfl rfl (Nat.le_of_ble_eq_true rfl) rfl (fun v2 S2 w3 hq2 => ?_)
  obtain ⟨z, rfl, hzr, h73, h121, t2, dr2, tx2, rfl, hsim⟩ := hk v2 S2 w3 hq2
  show zB L xs l mL_law false 16 bc bs QL zNo 3001 [zR 4000, zR 0, zR 73, zR 121, zI i, zI k, .null] [zI z] (ZZ t2 dr2 tx2) w3
  refine zB_istore (lo1 := [zR 4000, zR 0, zR 73, zR 121, zI i, zI k, zI z]) dL_law_3001 (by decide) rfl rfl ?_
  refine zB_aload_n dL_law_3003 rfl ?_
  refine zB_cV (st := []) dL_law_3004 vX12_thrown kL_136 (m_thrown (w := w3)) (by decide) c73 rfl rfl (Nat.le_of_ble_eq_true rfl) rfl (fun v4 S4 w4 hq4 => ?_)
  obtain ⟨rfl, rfl, rfl⟩ := hq4
  show zB L xs l mL_law false 16 bc bs QL zNo 3007 [zR 4000, zR 0, zR 73, zR 121, zI i, zI k, zI z] [zI (w4 73 1)] (ZZ t2 dr2 tx2) w4
  rw [h73]
  refine zB_iload dL_law_3007 rfl ?_
  refine zB_icmp_eq (tgt := 3014) dL_law_3009 (by decide) hkr hkr (fun _ => ?_) (fun q => absurd rfl q)
  refine zB_iload dL_law_3014 rfl ?_
  refine zB_if_ne (tgt := 3031) dL_law_3016 (by decide) hkr (fun _ => ?_) (fun q => ?_)
  · refine zB_goto (tgt := 3195) dL_law_3031 (by decide) ?_
    refine zB_drop (lo1 := [zR 4000, zR 0, zR 73, zR 121, zI i, .null, zI z]) 5 rfl ?_
    refine zB_drop (lo1 := [zR 4000, zR 0, zR 73, zR 121, zI i, .null, .null]) 6 rfl ?_
    exact kk t2 dr2 tx2 w4 hsim
  · have h21 := h121 q
    rw [if_neg (by decide)] at h21
    refine zB_aload_n dL_law_3019 rfl ?_
    refine zB_iconst dL_law_3020 ?_
    refine zB_laload dL_law_3021 c121 (by decide) (by decide) (by decide) ?_
    refine zB_iload dL_law_3022 rfl ?_
    rw [h21]
    have hzl : -9223372036854775808 ≤ z ∧ z < 9223372036854775808 := by have h1 := hzr.1; have h2 := hzr.2; omega
    refine zB_i2l dL_law_3024 hzr ?_
    refine zB_lcmp dL_law_3025 hzl hzl ?_
    refine zB_valI 0 (by simp) ?_
    refine zB_if_eq (tgt := 3031) dL_law_3026 (by decide) ⟨by decide, by decide⟩ (fun _ => ?_) (fun q => absurd rfl q)
    refine zB_goto (tgt := 3195) dL_law_3031 (by decide) ?_
    refine zB_drop (lo1 := [zR 4000, zR 0, zR 73, zR 121, zI i, .null, zI z]) 5 rfl ?_
    refine zB_drop (lo1 := [zR 4000, zR 0, zR 73, zR 121, zI i, .null, .null]) 6 rfl ?_
    exact kk t2 dr2 tx2 w4 hsim
set_option maxRecDepth 100000 in
set_option maxHeartbeats 4000000 in
theorem L_47 {L : Nat} {xs : Nat → Int32} {l : Launch} {n t dr tx bc bs : Nat} {w : zW} {i : Int} (hL0 : L < 2147483648) (h : zSim n t dr tx w) (hn : n ≤ 600) (i0 : 0 ≤ i) (i6 : i + 6 ≤ (L : Int)) (kk : ∀ (t2 dr2 tx2 : Nat) (w3 : zW), zSim (n + 1) t2 dr2 tx2 w3 → zB L xs l mL_law false 16 bc bs QL zNo 3195 [zR 4000, zR 0, zR 73, zR 121, zI i, .null, .null] [] (ZZ t2 dr2 tx2) w3) : zB L xs l mL_law false 16 (bc + 3) (bs + 18) QL zNo 3034 [zR 4000, zR 0, zR 73, zR 121, zI i, .null, .null] [] (ZZ t dr tx) w := by
  have hp : zPr l n mX11_paid mX12_paid 1 0 false [zI (sc xs (i + 1)), zI (sc xs (i + 2))] t dr tx w := P_paid h (inR_t _) (inR_t _)
  refine zB_aload_n dL_law_3034 rfl ?_
  refine zB_rd dL_law_3035 dL_law_3036 dL_law_3038 dL_law_3039 dL_law_3040 rfl rfl (by omega) (by omega) hL0 ?_
  refine zB_rd dL_law_3041 dL_law_3042 dL_law_3044 dL_law_3045 dL_law_3046 rfl rfl (by omega) (by omega) hL0 ?_
  refine zB_aload_n dL_law_3047 rfl ?_
  refine zB_callS (bc2 := bc) (bs2 := bs) (st := []) dL_law_3048 sL_paid kL_295 (w_paid hp) (by decide) rfl rfl (Nat.le_of_ble_eq_true rfl) ⟨Nat.add_comm _ _, Nat.add_comm _ _⟩ (fun v S1 w1 hq => ?_) (fun E S1 w1 hx => hx.elim)
  obtain ⟨k, rfl, ⟨hk0, hk2⟩, ⟨t1, dr1, tx1, rfl⟩, d2, Q2, hd2, hsp, hk⟩ := hq
  have hkr : inR k := inR_mk (by omega) (by omega)
  show zB L xs l mL_law false 16 bc bs QL zNo 3051 [zR 4000, zR 0, zR 73, zR 121, zI i, .null, .null] [zI k] (ZZ t1 dr1 tx1) w1
  refine zB_istore (lo1 := [zR 4000, zR 0, zR 73, zR 121, zI i, zI k, .null]) dL_law_3051 (by decide) rfl rfl ?_
  refine zB_aload_n dL_law_3053 rfl ?_
  refine zB_rd dL_law_3054 dL_law_3055 dL_law_3057 dL_law_3058 dL_law_3059 rfl rfl (by omega) (by omega) hL0 ?_
  refine zB_rd dL_law_3060 dL_law_3061 dL_law_3063 dL_law_3064 dL_law_3065 rfl rfl (by omega) (by omega) hL0 ?_
  refine zB_cV (st := []) dL_law_3066 vX12_paid kL_297 hsp (by omega) c73 rfl rfl (Nat.le_of_ble_eq_true rfl) rfl (fun v2 S2 w3 hq2 => ?_)
  obtain ⟨z, rfl, hzr, h73, h121, t2, dr2, tx2, rfl, hsim⟩ := hk v2 S2 w3 hq2
  show zB L xs l mL_law false 16 bc bs QL zNo 3069 [zR 4000, zR 0, zR 73, zR 121, zI i, zI k, .null] [zI z] (ZZ t2 dr2 tx2) w3
  refine zB_istore (lo1 := [zR 4000, zR 0, zR 73, zR 121, zI i, zI k, zI z]) dL_law_3069 (by decide) rfl rfl ?_
  refine zB_aload_n dL_law_3071 rfl ?_
  refine zB_cV (st := []) dL_law_3072 vX12_thrown kL_136 (m_thrown (w := w3)) (by decide) c73 rfl rfl (Nat.le_of_ble_eq_true rfl) rfl (fun v4 S4 w4 hq4 => ?_)
  obtain ⟨rfl, rfl, rfl⟩ := hq4
  show zB L xs l mL_law false 16 bc bs QL zNo 3075 [zR 4000, zR 0, zR 73, zR 121, zI i, zI k, zI z] [zI (w4 73 1)] (ZZ t2 dr2 tx2) w4
  rw [h73]
  refine zB_iload dL_law_3075 rfl ?_
  refine zB_icmp_eq (tgt := 3082) dL_law_3077 (by decide) hkr hkr (fun _ => ?_) (fun q => absurd rfl q)
  refine zB_iload dL_law_3082 rfl ?_
  refine zB_if_ne (tgt := 3099) dL_law_3084 (by decide) hkr (fun _ => ?_) (fun q => ?_)
  · refine zB_goto (tgt := 3195) dL_law_3099 (by decide) ?_
    refine zB_drop (lo1 := [zR 4000, zR 0, zR 73, zR 121, zI i, .null, zI z]) 5 rfl ?_
    refine zB_drop (lo1 := [zR 4000, zR 0, zR 73, zR 121, zI i, .null, .null]) 6 rfl ?_
    exact kk t2 dr2 tx2 w4 hsim
  · have h21 := h121 q
    rw [if_neg (by decide)] at h21
    refine zB_aload_n dL_law_3087 rfl ?_
    refine zB_iconst dL_law_3088 ?_
    refine zB_laload dL_law_3089 c121 (by decide) (by decide) (by decide) ?_
    refine zB_iload dL_law_3090 rfl ?_
    rw [h21]
    have hzl : -9223372036854775808 ≤ z ∧ z < 9223372036854775808 := by have h1 := hzr.1; have h2 := hzr.2; omega
    refine zB_i2l dL_law_3092 hzr ?_
    refine zB_lcmp dL_law_3093 hzl hzl ?_
    refine zB_valI 0 (by simp) ?_
    refine zB_if_eq (tgt := 3099) dL_law_3094 (by decide) ⟨by decide, by decide⟩ (fun _ => ?_) (fun q => absurd rfl q)
    refine zB_goto (tgt := 3195) dL_law_3099 (by decide) ?_
    refine zB_drop (lo1 := [zR 4000, zR 0, zR 73, zR 121, zI i, .null, zI z]) 5 rfl ?_
    refine zB_drop (lo1 := [zR 4000, zR 0, zR 73, zR 121, zI i, .null, .null]) 6 rfl ?_
    exact kk t2 dr2 tx2 w4 hsim
set_option maxRecDepth 100000 in
set_option maxHeartbeats 4000000 in
theorem L_48 {L : Nat} {xs : Nat → Int32} {l : Launch} {n t dr tx bc bs : Nat} {w : zW} {i : Int} (hL0 : L < 2147483648) (h : zSim n t dr tx w) (hn : n ≤ 600) (i0 : 0 ≤ i) (i6 : i + 6 ≤ (L : Int)) (kk : ∀ (t2 dr2 tx2 : Nat) (w3 : zW), zSim (n + 1) t2 dr2 tx2 w3 → zB L xs l mL_law false 16 bc bs QL zNo 3195 [zR 4000, zR 0, zR 73, zR 121, zI i, .null, .null] [] (ZZ t2 dr2 tx2) w3) : zB L xs l mL_law false 16 (bc + 3) (bs + 18) QL zNo 3102 [zR 4000, zR 0, zR 73, zR 121, zI i, .null, .null] [] (ZZ t dr tx) w := by
  obtain ⟨d, bc', bs', Q, X, ⟨hd, hbc, hbs⟩, hs, hret, hthr⟩ : zPr l n mX11_storm mX12_storm 0 0 false [zI (sc xs (i + 1)), zI (sc xs (i + 2))] t dr tx w := P_storm h (inR_t _) (inR_t _)
  refine zB_aload_n dL_law_3102 rfl ?_
  refine zB_rd dL_law_3103 dL_law_3104 dL_law_3106 dL_law_3107 dL_law_3108 rfl rfl (by omega) (by omega) hL0 ?_
  refine zB_rd dL_law_3109 dL_law_3110 dL_law_3112 dL_law_3113 dL_law_3114 rfl rfl (by omega) (by omega) hL0 ?_
  refine zB_callV (bc2 := bc + 3 - bc') (bs2 := bs + 18 - bs') (st := []) dL_law_3115 vX11_storm kL_298 hs (by omega) rfl rfl (Nat.le_of_ble_eq_true rfl) c0 rfl ⟨by omega, by omega⟩ (fun v S1 w1 hq => ?_) (fun E S1 w1 hx => ?_)
  · obtain ⟨⟨t1, dr1, tx1, rfl⟩, hv, d2, Q2, hd2, hsp, hk⟩ := hret v S1 w1 hq w1 (fun _ _ _ => rfl)
    obtain ⟨z0, rfl⟩ : ∃ z, v = some (zI z) := hv
    obtain ⟨z, hz, hzr⟩ := zI_in z0
    show zB L xs l mL_law false 16 (bc + 3 - bc') (bs + 18 - bs') QL zNo 3118 [zR 4000, zR 0, zR 73, zR 121, zI i, .null, .null] [zI z0] (ZZ t1 dr1 tx1) w1
    rw [hz]
    refine zB_aload_n dL_law_3118 rfl ?_
    refine zB_rd dL_law_3119 dL_law_3120 dL_law_3122 dL_law_3123 dL_law_3124 rfl rfl (by omega) (by omega) hL0 ?_
    refine zB_rd dL_law_3125 dL_law_3126 dL_law_3128 dL_law_3129 dL_law_3130 rfl rfl (by omega) (by omega) hL0 ?_
    refine zB_cV (st := [zI z]) dL_law_3131 vX12_storm kL_301 hsp (by omega) c73 rfl rfl (Nat.le_of_ble_eq_true rfl) rfl (fun v2 S2 w3 hq2 => ?_)
    obtain ⟨rfl, h1, h2, t2, dr2, tx2, rfl, hsim⟩ := hk v2 S2 w3 hq2
    show zB L xs l mL_law false 16 (bc + 3 - bc') (bs + 18 - bs') QL zNo 3134 [zR 4000, zR 0, zR 73, zR 121, zI i, .null, .null] [zI z0, zI z] (ZZ t2 dr2 tx2) w3
    rw [hz]
    refine zB_icmp_eq (tgt := 3195) dL_law_3134 (by decide) hzr hzr (fun _ => ?_) (fun q => absurd rfl q)
    exact zB_wk (by omega) (by omega) (kk t2 dr2 tx2 w3 hsim)
  · obtain ⟨k, ⟨-, -, h0⟩ | ⟨-, -, h0⟩, -⟩ := hthr E S1 w1 hx
    · exact absurd rfl h0
    · exact absurd rfl h0
set_option maxRecDepth 100000 in
set_option maxHeartbeats 4000000 in
theorem L_49 {L : Nat} {xs : Nat → Int32} {l : Launch} {n t dr tx bc bs : Nat} {w : zW} {i : Int} (hL0 : L < 2147483648) (h : zSim n t dr tx w) (hn : n ≤ 600) (i0 : 0 ≤ i) (i6 : i + 6 ≤ (L : Int)) (kk : ∀ (t2 dr2 tx2 : Nat) (w3 : zW), zSim (n + 1) t2 dr2 tx2 w3 → zB L xs l mL_law false 16 bc bs QL zNo 3195 [zR 4000, zR 0, zR 73, zR 121, zI i, .null, .null] [] (ZZ t2 dr2 tx2) w3) : zB L xs l mL_law false 16 (bc + 3) (bs + 18) QL zNo 3139 [zR 4000, zR 0, zR 73, zR 121, zI i, .null, .null] [] (ZZ t dr tx) w := by
  have hp : zPr l n mX11_odds mX12_odds 1 0 false [zI (sc xs (i + 1))] t dr tx w := P_odds h (inR_t _)
  refine zB_aload_n dL_law_3139 rfl ?_
  refine zB_rd dL_law_3140 dL_law_3141 dL_law_3143 dL_law_3144 dL_law_3145 rfl rfl (by omega) (by omega) hL0 ?_
  refine zB_aload_n dL_law_3146 rfl ?_
  refine zB_callS (bc2 := bc) (bs2 := bs) (st := []) dL_law_3147 sL_odds kL_302 (w_odds hp) (by decide) rfl rfl (Nat.le_of_ble_eq_true rfl) ⟨Nat.add_comm _ _, Nat.add_comm _ _⟩ (fun v S1 w1 hq => ?_) (fun E S1 w1 hx => hx.elim)
  obtain ⟨k, rfl, ⟨hk0, hk2⟩, ⟨t1, dr1, tx1, rfl⟩, d2, Q2, hd2, hsp, hk⟩ := hq
  have hkr : inR k := inR_mk (by omega) (by omega)
  show zB L xs l mL_law false 16 bc bs QL zNo 3150 [zR 4000, zR 0, zR 73, zR 121, zI i, .null, .null] [zI k] (ZZ t1 dr1 tx1) w1
  refine zB_istore (lo1 := [zR 4000, zR 0, zR 73, zR 121, zI i, zI k, .null]) dL_law_3150 (by decide) rfl rfl ?_
  refine zB_aload_n dL_law_3152 rfl ?_
  refine zB_rd dL_law_3153 dL_law_3154 dL_law_3156 dL_law_3157 dL_law_3158 rfl rfl (by omega) (by omega) hL0 ?_
  refine zB_cV (st := []) dL_law_3159 vX12_odds kL_304 hsp (by omega) c73 rfl rfl (Nat.le_of_ble_eq_true rfl) rfl (fun v2 S2 w3 hq2 => ?_)
  obtain ⟨z, rfl, hzr, h73, h121, t2, dr2, tx2, rfl, hsim⟩ := hk v2 S2 w3 hq2
  show zB L xs l mL_law false 16 bc bs QL zNo 3162 [zR 4000, zR 0, zR 73, zR 121, zI i, zI k, .null] [zI z] (ZZ t2 dr2 tx2) w3
  refine zB_istore (lo1 := [zR 4000, zR 0, zR 73, zR 121, zI i, zI k, zI z]) dL_law_3162 (by decide) rfl rfl ?_
  refine zB_aload_n dL_law_3164 rfl ?_
  refine zB_cV (st := []) dL_law_3165 vX12_thrown kL_136 (m_thrown (w := w3)) (by decide) c73 rfl rfl (Nat.le_of_ble_eq_true rfl) rfl (fun v4 S4 w4 hq4 => ?_)
  obtain ⟨rfl, rfl, rfl⟩ := hq4
  show zB L xs l mL_law false 16 bc bs QL zNo 3168 [zR 4000, zR 0, zR 73, zR 121, zI i, zI k, zI z] [zI (w4 73 1)] (ZZ t2 dr2 tx2) w4
  rw [h73]
  refine zB_iload dL_law_3168 rfl ?_
  refine zB_icmp_eq (tgt := 3175) dL_law_3170 (by decide) hkr hkr (fun _ => ?_) (fun q => absurd rfl q)
  refine zB_iload dL_law_3175 rfl ?_
  refine zB_if_ne (tgt := 3192) dL_law_3177 (by decide) hkr (fun _ => ?_) (fun q => ?_)
  · refine zB_goto (tgt := 3195) dL_law_3192 (by decide) ?_
    refine zB_drop (lo1 := [zR 4000, zR 0, zR 73, zR 121, zI i, .null, zI z]) 5 rfl ?_
    refine zB_drop (lo1 := [zR 4000, zR 0, zR 73, zR 121, zI i, .null, .null]) 6 rfl ?_
    exact kk t2 dr2 tx2 w4 hsim
  · have h21 := h121 q
    rw [if_neg (by decide)] at h21
    refine zB_aload_n dL_law_3180 rfl ?_
    refine zB_iconst dL_law_3181 ?_
    refine zB_laload dL_law_3182 c121 (by decide) (by decide) (by decide) ?_
    refine zB_iload dL_law_3183 rfl ?_
    rw [h21]
    have hzl : -9223372036854775808 ≤ z ∧ z < 9223372036854775808 := by have h1 := hzr.1; have h2 := hzr.2; omega
    refine zB_i2l dL_law_3185 hzr ?_
    refine zB_lcmp dL_law_3186 hzl hzl ?_
    refine zB_valI 0 (by simp) ?_
    refine zB_if_eq (tgt := 3192) dL_law_3187 (by decide) ⟨by decide, by decide⟩ (fun _ => ?_) (fun q => absurd rfl q)
    refine zB_goto (tgt := 3195) dL_law_3192 (by decide) ?_
    refine zB_drop (lo1 := [zR 4000, zR 0, zR 73, zR 121, zI i, .null, zI z]) 5 rfl ?_
    refine zB_drop (lo1 := [zR 4000, zR 0, zR 73, zR 121, zI i, .null, .null]) 6 rfl ?_
    exact kk t2 dr2 tx2 w4 hsim
