/-! the law's cases -/
abbrev QL : Option Value → zS → zW → Prop := fun v _ _ => v = some (zI 1)
abbrev sc (xs : Nat → Int32) (i : Int) : Int := (xs i.toNat).toInt
section ZR
variable {L : Nat} {xs : Nat → Int32} {l : Launch} {M : zM} {gr : Bool} {d bc bs : Nat} {Q : Option Value → zS → zW → Prop} {X : String → zS → zW → Prop} {pc : Nat} {lo st : List Value} {S : zS} {w : zW}
theorem zB_rd {i k : Int} (d0 : decode M.2.1 pc = .ok (.aload_n 0, 1)) (d1 : decode M.2.1 (pc + 1) = .ok (.iload 4, 2)) (d3 : decode M.2.1 (pc + 3) = .ok (.iconst k, 1)) (d4 : decode M.2.1 (pc + 4) = .ok (.iadd, 1)) (d5 : decode M.2.1 (pc + 5) = .ok (.iaload, 1)) (h0 : lo[0]? = some (zR 4000)) (h4 : lo[4]? = some (zI i)) (b0 : 0 ≤ i + k) (b1 : i + k < (L : Int)) (hL0 : L < 2147483648)
    (kk : zB L xs l M gr d bc bs Q X (pc + 6) lo (zI (sc xs (i + k)) :: st) S w) : zB L xs l M gr d bc bs Q X pc lo st S w := by
  refine zB_aload_n d0 h0 ?_
  refine zB_iload d1 h4 ?_
  refine zB_iconst d3 ?_
  refine zB_iadd d4 ?_
  exact zB_sld d5 b0 b1 hL0 kk
end ZR
set_option maxRecDepth 100000 in
set_option maxHeartbeats 4000000 in
theorem L_0 {L : Nat} {xs : Nat → Int32} {l : Launch} {n t dr tx bc bs : Nat} {w : zW} {i : Int} (hL0 : L < 2147483648) (h : zSim n t dr tx w) (hn : n ≤ 600) (i0 : 0 ≤ i) (i6 : i + 6 ≤ (L : Int)) (kk : ∀ (t2 dr2 tx2 : Nat) (w3 : zW), zSim (n + 1) t2 dr2 tx2 w3 → zB L xs l mL_law false 16 bc bs QL zNo 3195 [zR 4000, zR 0, zR 73, zR 121, zI i, .null, .null] [] (ZZ t2 dr2 tx2) w3) : zB L xs l mL_law false 16 (bc + 3) (bs + 18) QL zNo 256 [zR 4000, zR 0, zR 73, zR 121, zI i, .null, .null] [] (ZZ t dr tx) w := by
  obtain ⟨d, bc', bs', Q, X, ⟨hd, hbc, hbs⟩, hs, hret, hthr⟩ : zPr l n mX11_feed mX12_feed 0 0 false [zI (sc xs (i + 1)), zI (sc xs (i + 2)), zI (sc xs (i + 3)), zI (sc xs (i + 4)), zI (sc xs (i + 5))] t dr tx w := P_feed h (inR_t _) (inR_t _) (inR_t _) (inR_t _) (inR_t _)
  refine zB_aload_n dL_law_256 rfl ?_
  refine zB_rd dL_law_257 dL_law_258 dL_law_260 dL_law_261 dL_law_262 rfl rfl (by omega) (by omega) hL0 ?_
  refine zB_rd dL_law_263 dL_law_264 dL_law_266 dL_law_267 dL_law_268 rfl rfl (by omega) (by omega) hL0 ?_
  refine zB_rd dL_law_269 dL_law_270 dL_law_272 dL_law_273 dL_law_274 rfl rfl (by omega) (by omega) hL0 ?_
  refine zB_rd dL_law_275 dL_law_276 dL_law_278 dL_law_279 dL_law_280 rfl rfl (by omega) (by omega) hL0 ?_
  refine zB_rd dL_law_281 dL_law_282 dL_law_284 dL_law_285 dL_law_286 rfl rfl (by omega) (by omega) hL0 ?_
  refine zB_callV (bc2 := bc + 3 - bc') (bs2 := bs + 18 - bs') (st := []) dL_law_287 vX11_feed kL_126 hs (by omega) rfl rfl (Nat.le_of_ble_eq_true rfl) c0 rfl ⟨by omega, by omega⟩ (fun v S1 w1 hq => ?_) (fun E S1 w1 hx => ?_)
  · obtain ⟨⟨t1, dr1, tx1, rfl⟩, hv, d2, Q2, hd2, hsp, hk⟩ := hret v S1 w1 hq w1 (fun _ _ _ => rfl)
    obtain ⟨z0, rfl⟩ : ∃ z, v = some (zI z) := hv
    obtain ⟨z, hz, hzr⟩ := zI_in z0
    show zB L xs l mL_law false 16 (bc + 3 - bc') (bs + 18 - bs') QL zNo 290 [zR 4000, zR 0, zR 73, zR 121, zI i, .null, .null] [zI z0] (ZZ t1 dr1 tx1) w1
    rw [hz]
    refine zB_aload_n dL_law_290 rfl ?_
    refine zB_rd dL_law_291 dL_law_292 dL_law_294 dL_law_295 dL_law_296 rfl rfl (by omega) (by omega) hL0 ?_
    refine zB_rd dL_law_297 dL_law_298 dL_law_300 dL_law_301 dL_law_302 rfl rfl (by omega) (by omega) hL0 ?_
    refine zB_rd dL_law_303 dL_law_304 dL_law_306 dL_law_307 dL_law_308 rfl rfl (by omega) (by omega) hL0 ?_
    refine zB_rd dL_law_309 dL_law_310 dL_law_312 dL_law_313 dL_law_314 rfl rfl (by omega) (by omega) hL0 ?_
    refine zB_rd dL_law_315 dL_law_316 dL_law_318 dL_law_319 dL_law_320 rfl rfl (by omega) (by omega) hL0 ?_
    refine zB_cV (st := [zI z]) dL_law_321 vX12_feed kL_129 hsp (by omega) c73 rfl rfl (Nat.le_of_ble_eq_true rfl) rfl (fun v2 S2 w3 hq2 => ?_)
    obtain ⟨rfl, h1, h2, t2, dr2, tx2, rfl, hsim⟩ := hk v2 S2 w3 hq2
    show zB L xs l mL_law false 16 (bc + 3 - bc') (bs + 18 - bs') QL zNo 324 [zR 4000, zR 0, zR 73, zR 121, zI i, .null, .null] [zI z0, zI z] (ZZ t2 dr2 tx2) w3
    rw [hz]
    refine zB_icmp_eq (tgt := 3195) dL_law_324 (by decide) hzr hzr (fun _ => ?_) (fun q => absurd rfl q)
    exact zB_wk (by omega) (by omega) (kk t2 dr2 tx2 w3 hsim)
  · obtain ⟨k, ⟨-, -, h0⟩ | ⟨-, -, h0⟩, -⟩ := hthr E S1 w1 hx
    · exact absurd rfl h0
    · exact absurd rfl h0
set_option maxRecDepth 100000 in
set_option maxHeartbeats 4000000 in
theorem L_1 {L : Nat} {xs : Nat → Int32} {l : Launch} {n t dr tx bc bs : Nat} {w : zW} {i : Int} (hL0 : L < 2147483648) (h : zSim n t dr tx w) (hn : n ≤ 600) (i0 : 0 ≤ i) (i6 : i + 6 ≤ (L : Int)) (kk : ∀ (t2 dr2 tx2 : Nat) (w3 : zW), zSim (n + 1) t2 dr2 tx2 w3 → zB L xs l mL_law false 16 bc bs QL zNo 3195 [zR 4000, zR 0, zR 73, zR 121, zI i, .null, .null] [] (ZZ t2 dr2 tx2) w3) : zB L xs l mL_law false 16 (bc + 3) (bs + 18) QL zNo 329 [zR 4000, zR 0, zR 73, zR 121, zI i, .null, .null] [] (ZZ t dr tx) w := by
  have hp : zPr l n mX11_yard mX12_yard 0 1 false [zI (sc xs (i + 1))] t dr tx w := P_yard h (inR_t _)
  refine zB_aload_n dL_law_329 rfl ?_
  refine zB_rd dL_law_330 dL_law_331 dL_law_333 dL_law_334 dL_law_335 rfl rfl (by omega) (by omega) hL0 ?_
  refine zB_aload_n dL_law_336 rfl ?_
  refine zB_callS (bc2 := bc) (bs2 := bs) (st := []) dL_law_337 sL_yard kL_130 (w_yard hp) (by decide) rfl rfl (Nat.le_of_ble_eq_true rfl) ⟨Nat.add_comm _ _, Nat.add_comm _ _⟩ (fun v S1 w1 hq => ?_) (fun E S1 w1 hx => hx.elim)
  obtain ⟨k, rfl, ⟨hk0, hk2⟩, ⟨t1, dr1, tx1, rfl⟩, d2, Q2, hd2, hsp, hk⟩ := hq
  have hkr : inR k := inR_mk (by omega) (by omega)
  show zB L xs l mL_law false 16 bc bs QL zNo 340 [zR 4000, zR 0, zR 73, zR 121, zI i, .null, .null] [zI k] (ZZ t1 dr1 tx1) w1
  refine zB_istore (lo1 := [zR 4000, zR 0, zR 73, zR 121, zI i, zI k, .null]) dL_law_340 (by decide) rfl rfl ?_
  refine zB_aload_n dL_law_342 rfl ?_
  refine zB_rd dL_law_343 dL_law_344 dL_law_346 dL_law_347 dL_law_348 rfl rfl (by omega) (by omega) hL0 ?_
  refine zB_cV (st := []) dL_law_349 vX12_yard kL_135 hsp (by omega) c73 rfl rfl (Nat.le_of_ble_eq_true rfl) rfl (fun v2 S2 w3 hq2 => ?_)
  obtain ⟨z, rfl, hzr, h73, h121, t2, dr2, tx2, rfl, hsim⟩ := hk v2 S2 w3 hq2
  show zB L xs l mL_law false 16 bc bs QL zNo 352 [zR 4000, zR 0, zR 73, zR 121, zI i, zI k, .null] [zI z] (ZZ t2 dr2 tx2) w3
  refine zB_istore (lo1 := [zR 4000, zR 0, zR 73, zR 121, zI i, zI k, zI z]) dL_law_352 (by decide) rfl rfl ?_
  refine zB_aload_n dL_law_354 rfl ?_
  refine zB_cV (st := []) dL_law_355 vX12_thrown kL_136 (m_thrown (w := w3)) (by decide) c73 rfl rfl (Nat.le_of_ble_eq_true rfl) rfl (fun v4 S4 w4 hq4 => ?_)
  obtain ⟨rfl, rfl, rfl⟩ := hq4
  show zB L xs l mL_law false 16 bc bs QL zNo 358 [zR 4000, zR 0, zR 73, zR 121, zI i, zI k, zI z] [zI (w4 73 1)] (ZZ t2 dr2 tx2) w4
  rw [h73]
  refine zB_iload dL_law_358 rfl ?_
  refine zB_icmp_eq (tgt := 365) dL_law_360 (by decide) hkr hkr (fun _ => ?_) (fun q => absurd rfl q)
  refine zB_iload dL_law_365 rfl ?_
  refine zB_if_ne (tgt := 382) dL_law_367 (by decide) hkr (fun _ => ?_) (fun q => ?_)
  · refine zB_goto (tgt := 3195) dL_law_382 (by decide) ?_
    refine zB_drop (lo1 := [zR 4000, zR 0, zR 73, zR 121, zI i, .null, zI z]) 5 rfl ?_
    refine zB_drop (lo1 := [zR 4000, zR 0, zR 73, zR 121, zI i, .null, .null]) 6 rfl ?_
    exact kk t2 dr2 tx2 w4 hsim
  · have h21 := h121 q
    rw [if_neg (by decide)] at h21
    refine zB_aload_n dL_law_370 rfl ?_
    refine zB_iconst dL_law_371 ?_
    refine zB_laload dL_law_372 c121 (by decide) (by decide) (by decide) ?_
    refine zB_iload dL_law_373 rfl ?_
    rw [h21]
    have hzl : -9223372036854775808 ≤ z ∧ z < 9223372036854775808 := by have h1 := hzr.1; have h2 := hzr.2; omega
    refine zB_i2l dL_law_375 hzr ?_
    refine zB_lcmp dL_law_376 hzl hzl ?_
    refine zB_valI 0 (by simp) ?_
    refine zB_if_eq (tgt := 382) dL_law_377 (by decide) ⟨by decide, by decide⟩ (fun _ => ?_) (fun q => absurd rfl q)
    refine zB_goto (tgt := 3195) dL_law_382 (by decide) ?_
    refine zB_drop (lo1 := [zR 4000, zR 0, zR 73, zR 121, zI i, .null, zI z]) 5 rfl ?_
    refine zB_drop (lo1 := [zR 4000, zR 0, zR 73, zR 121, zI i, .null, .null]) 6 rfl ?_
    exact kk t2 dr2 tx2 w4 hsim
set_option maxRecDepth 100000 in
set_option maxHeartbeats 4000000 in
theorem L_2 {L : Nat} {xs : Nat → Int32} {l : Launch} {n t dr tx bc bs : Nat} {w : zW} {i : Int} (hL0 : L < 2147483648) (h : zSim n t dr tx w) (hn : n ≤ 600) (i0 : 0 ≤ i) (i6 : i + 6 ≤ (L : Int)) (kk : ∀ (t2 dr2 tx2 : Nat) (w3 : zW), zSim (n + 1) t2 dr2 tx2 w3 → zB L xs l mL_law false 16 bc bs QL zNo 3195 [zR 4000, zR 0, zR 73, zR 121, zI i, .null, .null] [] (ZZ t2 dr2 tx2) w3) : zB L xs l mL_law false 16 (bc + 3) (bs + 18) QL zNo 385 [zR 4000, zR 0, zR 73, zR 121, zI i, .null, .null] [] (ZZ t dr tx) w := by
  obtain ⟨d, bc', bs', Q, X, ⟨hd, hbc, hbs⟩, hs, hret, hthr⟩ : zPr l n mX11_fault mX12_fault 0 0 false [] t dr tx w := P_fault h
  refine zB_aload_n dL_law_385 rfl ?_
  refine zB_callV (bc2 := bc + 3 - bc') (bs2 := bs + 18 - bs') (st := []) dL_law_386 vX11_fault kL_140 hs (by omega) rfl rfl (Nat.le_of_ble_eq_true rfl) c0 rfl ⟨by omega, by omega⟩ (fun v S1 w1 hq => ?_) (fun E S1 w1 hx => ?_)
  · obtain ⟨⟨t1, dr1, tx1, rfl⟩, hv, d2, Q2, hd2, hsp, hk⟩ := hret v S1 w1 hq w1 (fun _ _ _ => rfl)
    obtain ⟨z0, rfl⟩ : ∃ z, v = some (zI z) := hv
    obtain ⟨z, hz, hzr⟩ := zI_in z0
    show zB L xs l mL_law false 16 (bc + 3 - bc') (bs + 18 - bs') QL zNo 389 [zR 4000, zR 0, zR 73, zR 121, zI i, .null, .null] [zI z0] (ZZ t1 dr1 tx1) w1
    rw [hz]
    refine zB_aload_n dL_law_389 rfl ?_
    refine zB_cV (st := [zI z]) dL_law_390 vX12_fault kL_143 hsp (by omega) c73 rfl rfl (Nat.le_of_ble_eq_true rfl) rfl (fun v2 S2 w3 hq2 => ?_)
    obtain ⟨rfl, h1, h2, t2, dr2, tx2, rfl, hsim⟩ := hk v2 S2 w3 hq2
    show zB L xs l mL_law false 16 (bc + 3 - bc') (bs + 18 - bs') QL zNo 393 [zR 4000, zR 0, zR 73, zR 121, zI i, .null, .null] [zI z0, zI z] (ZZ t2 dr2 tx2) w3
    rw [hz]
    refine zB_icmp_eq (tgt := 3195) dL_law_393 (by decide) hzr hzr (fun _ => ?_) (fun q => absurd rfl q)
    exact zB_wk (by omega) (by omega) (kk t2 dr2 tx2 w3 hsim)
  · obtain ⟨k, ⟨-, -, h0⟩ | ⟨-, -, h0⟩, -⟩ := hthr E S1 w1 hx
    · exact absurd rfl h0
    · exact absurd rfl h0
set_option maxRecDepth 100000 in
set_option maxHeartbeats 4000000 in
theorem L_3 {L : Nat} {xs : Nat → Int32} {l : Launch} {n t dr tx bc bs : Nat} {w : zW} {i : Int} (hL0 : L < 2147483648) (h : zSim n t dr tx w) (hn : n ≤ 600) (i0 : 0 ≤ i) (i6 : i + 6 ≤ (L : Int)) (kk : ∀ (t2 dr2 tx2 : Nat) (w3 : zW), zSim (n + 1) t2 dr2 tx2 w3 → zB L xs l mL_law false 16 bc bs QL zNo 3195 [zR 4000, zR 0, zR 73, zR 121, zI i, .null, .null] [] (ZZ t2 dr2 tx2) w3) : zB L xs l mL_law false 16 (bc + 3) (bs + 18) QL zNo 398 [zR 4000, zR 0, zR 73, zR 121, zI i, .null, .null] [] (ZZ t dr tx) w := by
  have hp : zPr l n mX11_count mX12_count 1 0 false [zI (sc xs (i + 1))] t dr tx w := P_count h (inR_t _)
  refine zB_aload_n dL_law_398 rfl ?_
  refine zB_rd dL_law_399 dL_law_400 dL_law_402 dL_law_403 dL_law_404 rfl rfl (by omega) (by omega) hL0 ?_
  refine zB_aload_n dL_law_405 rfl ?_
  refine zB_callS (bc2 := bc) (bs2 := bs) (st := []) dL_law_406 sL_count kL_144 (w_count hp) (by decide) rfl rfl (Nat.le_of_ble_eq_true rfl) ⟨Nat.add_comm _ _, Nat.add_comm _ _⟩ (fun v S1 w1 hq => ?_) (fun E S1 w1 hx => hx.elim)
  obtain ⟨k, rfl, ⟨hk0, hk2⟩, ⟨t1, dr1, tx1, rfl⟩, d2, Q2, hd2, hsp, hk⟩ := hq
  have hkr : inR k := inR_mk (by omega) (by omega)
  show zB L xs l mL_law false 16 bc bs QL zNo 409 [zR 4000, zR 0, zR 73, zR 121, zI i, .null, .null] [zI k] (ZZ t1 dr1 tx1) w1
  refine zB_istore (lo1 := [zR 4000, zR 0, zR 73, zR 121, zI i, zI k, .null]) dL_law_409 (by decide) rfl rfl ?_
  refine zB_aload_n dL_law_411 rfl ?_
  refine zB_rd dL_law_412 dL_law_413 dL_law_415 dL_law_416 dL_law_417 rfl rfl (by omega) (by omega) hL0 ?_
  refine zB_cV (st := []) dL_law_418 vX12_count kL_146 hsp (by omega) c73 rfl rfl (Nat.le_of_ble_eq_true rfl) rfl (fun v2 S2 w3 hq2 => ?_)
  obtain ⟨z, rfl, hzr, h73, h121, t2, dr2, tx2, rfl, hsim⟩ := hk v2 S2 w3 hq2
  show zB L xs l mL_law false 16 bc bs QL zNo 421 [zR 4000, zR 0, zR 73, zR 121, zI i, zI k, .null] [zI z] (ZZ t2 dr2 tx2) w3
  refine zB_istore (lo1 := [zR 4000, zR 0, zR 73, zR 121, zI i, zI k, zI z]) dL_law_421 (by decide) rfl rfl ?_
  refine zB_aload_n dL_law_423 rfl ?_
  refine zB_cV (st := []) dL_law_424 vX12_thrown kL_136 (m_thrown (w := w3)) (by decide) c73 rfl rfl (Nat.le_of_ble_eq_true rfl) rfl (fun v4 S4 w4 hq4 => ?_)
  obtain ⟨rfl, rfl, rfl⟩ := hq4
  show zB L xs l mL_law false 16 bc bs QL zNo 427 [zR 4000, zR 0, zR 73, zR 121, zI i, zI k, zI z] [zI (w4 73 1)] (ZZ t2 dr2 tx2) w4
  rw [h73]
  refine zB_iload dL_law_427 rfl ?_
  refine zB_icmp_eq (tgt := 434) dL_law_429 (by decide) hkr hkr (fun _ => ?_) (fun q => absurd rfl q)
  refine zB_iload dL_law_434 rfl ?_
  refine zB_if_ne (tgt := 451) dL_law_436 (by decide) hkr (fun _ => ?_) (fun q => ?_)
  · refine zB_goto (tgt := 3195) dL_law_451 (by decide) ?_
    refine zB_drop (lo1 := [zR 4000, zR 0, zR 73, zR 121, zI i, .null, zI z]) 5 rfl ?_
    refine zB_drop (lo1 := [zR 4000, zR 0, zR 73, zR 121, zI i, .null, .null]) 6 rfl ?_
    exact kk t2 dr2 tx2 w4 hsim
  · have h21 := h121 q
    rw [if_neg (by decide)] at h21
    refine zB_aload_n dL_law_439 rfl ?_
    refine zB_iconst dL_law_440 ?_
    refine zB_laload dL_law_441 c121 (by decide) (by decide) (by decide) ?_
    refine zB_iload dL_law_442 rfl ?_
    rw [h21]
    have hzl : -9223372036854775808 ≤ z ∧ z < 9223372036854775808 := by have h1 := hzr.1; have h2 := hzr.2; omega
    refine zB_i2l dL_law_444 hzr ?_
    refine zB_lcmp dL_law_445 hzl hzl ?_
    refine zB_valI 0 (by simp) ?_
    refine zB_if_eq (tgt := 451) dL_law_446 (by decide) ⟨by decide, by decide⟩ (fun _ => ?_) (fun q => absurd rfl q)
    refine zB_goto (tgt := 3195) dL_law_451 (by decide) ?_
    refine zB_drop (lo1 := [zR 4000, zR 0, zR 73, zR 121, zI i, .null, zI z]) 5 rfl ?_
    refine zB_drop (lo1 := [zR 4000, zR 0, zR 73, zR 121, zI i, .null, .null]) 6 rfl ?_
    exact kk t2 dr2 tx2 w4 hsim
set_option maxRecDepth 100000 in
set_option maxHeartbeats 4000000 in
theorem L_4 {L : Nat} {xs : Nat → Int32} {l : Launch} {n t dr tx bc bs : Nat} {w : zW} {i : Int} (hL0 : L < 2147483648) (h : zSim n t dr tx w) (hn : n ≤ 600) (i0 : 0 ≤ i) (i6 : i + 6 ≤ (L : Int)) (kk : ∀ (t2 dr2 tx2 : Nat) (w3 : zW), zSim (n + 1) t2 dr2 tx2 w3 → zB L xs l mL_law false 16 bc bs QL zNo 3195 [zR 4000, zR 0, zR 73, zR 121, zI i, .null, .null] [] (ZZ t2 dr2 tx2) w3) : zB L xs l mL_law false 16 (bc + 3) (bs + 18) QL zNo 454 [zR 4000, zR 0, zR 73, zR 121, zI i, .null, .null] [] (ZZ t dr tx) w := by
  have hp : zPr l n mX11_letter mX12_letter 1 0 false [zI (sc xs (i + 1)), zI (sc xs (i + 2))] t dr tx w := P_letter h (inR_t _) (inR_t _)
  refine zB_aload_n dL_law_454 rfl ?_
  refine zB_rd dL_law_455 dL_law_456 dL_law_458 dL_law_459 dL_law_460 rfl rfl (by omega) (by omega) hL0 ?_
  refine zB_rd dL_law_461 dL_law_462 dL_law_464 dL_law_465 dL_law_466 rfl rfl (by omega) (by omega) hL0 ?_
  refine zB_aload_n dL_law_467 rfl ?_
  refine zB_callS (bc2 := bc) (bs2 := bs) (st := []) dL_law_468 sL_letter kL_147 (w_letter hp) (by decide) rfl rfl (Nat.le_of_ble_eq_true rfl) ⟨Nat.add_comm _ _, Nat.add_comm _ _⟩ (fun v S1 w1 hq => ?_) (fun E S1 w1 hx => hx.elim)
  obtain ⟨k, rfl, ⟨hk0, hk2⟩, ⟨t1, dr1, tx1, rfl⟩, d2, Q2, hd2, hsp, hk⟩ := hq
  have hkr : inR k := inR_mk (by omega) (by omega)
  show zB L xs l mL_law false 16 bc bs QL zNo 471 [zR 4000, zR 0, zR 73, zR 121, zI i, .null, .null] [zI k] (ZZ t1 dr1 tx1) w1
  refine zB_istore (lo1 := [zR 4000, zR 0, zR 73, zR 121, zI i, zI k, .null]) dL_law_471 (by decide) rfl rfl ?_
  refine zB_aload_n dL_law_473 rfl ?_
  refine zB_rd dL_law_474 dL_law_475 dL_law_477 dL_law_478 dL_law_479 rfl rfl (by omega) (by omega) hL0 ?_
  refine zB_rd dL_law_480 dL_law_481 dL_law_483 dL_law_484 dL_law_485 rfl rfl (by omega) (by omega) hL0 ?_
  refine zB_cV (st := []) dL_law_486 vX12_letter kL_150 hsp (by omega) c73 rfl rfl (Nat.le_of_ble_eq_true rfl) rfl (fun v2 S2 w3 hq2 => ?_)
  obtain ⟨z, rfl, hzr, h73, h121, t2, dr2, tx2, rfl, hsim⟩ := hk v2 S2 w3 hq2
  show zB L xs l mL_law false 16 bc bs QL zNo 489 [zR 4000, zR 0, zR 73, zR 121, zI i, zI k, .null] [zI z] (ZZ t2 dr2 tx2) w3
  refine zB_istore (lo1 := [zR 4000, zR 0, zR 73, zR 121, zI i, zI k, zI z]) dL_law_489 (by decide) rfl rfl ?_
  refine zB_aload_n dL_law_491 rfl ?_
  refine zB_cV (st := []) dL_law_492 vX12_thrown kL_136 (m_thrown (w := w3)) (by decide) c73 rfl rfl (Nat.le_of_ble_eq_true rfl) rfl (fun v4 S4 w4 hq4 => ?_)
  obtain ⟨rfl, rfl, rfl⟩ := hq4
  show zB L xs l mL_law false 16 bc bs QL zNo 495 [zR 4000, zR 0, zR 73, zR 121, zI i, zI k, zI z] [zI (w4 73 1)] (ZZ t2 dr2 tx2) w4
  rw [h73]
  refine zB_iload dL_law_495 rfl ?_
  refine zB_icmp_eq (tgt := 502) dL_law_497 (by decide) hkr hkr (fun _ => ?_) (fun q => absurd rfl q)
  refine zB_iload dL_law_502 rfl ?_
  refine zB_if_ne (tgt := 519) dL_law_504 (by decide) hkr (fun _ => ?_) (fun q => ?_)
  · refine zB_goto (tgt := 3195) dL_law_519 (by decide) ?_
    refine zB_drop (lo1 := [zR 4000, zR 0, zR 73, zR 121, zI i, .null, zI z]) 5 rfl ?_
    refine zB_drop (lo1 := [zR 4000, zR 0, zR 73, zR 121, zI i, .null, .null]) 6 rfl ?_
    exact kk t2 dr2 tx2 w4 hsim
  · have h21 := h121 q
    rw [if_neg (by decide)] at h21
    refine zB_aload_n dL_law_507 rfl ?_
    refine zB_iconst dL_law_508 ?_
    refine zB_laload dL_law_509 c121 (by decide) (by decide) (by decide) ?_
    refine zB_iload dL_law_510 rfl ?_
    rw [h21]
    have hzl : -9223372036854775808 ≤ z ∧ z < 9223372036854775808 := by have h1 := hzr.1; have h2 := hzr.2; omega
    refine zB_i2l dL_law_512 hzr ?_
    refine zB_lcmp dL_law_513 hzl hzl ?_
    refine zB_valI 0 (by simp) ?_
    refine zB_if_eq (tgt := 519) dL_law_514 (by decide) ⟨by decide, by decide⟩ (fun _ => ?_) (fun q => absurd rfl q)
    refine zB_goto (tgt := 3195) dL_law_519 (by decide) ?_
    refine zB_drop (lo1 := [zR 4000, zR 0, zR 73, zR 121, zI i, .null, zI z]) 5 rfl ?_
    refine zB_drop (lo1 := [zR 4000, zR 0, zR 73, zR 121, zI i, .null, .null]) 6 rfl ?_
    exact kk t2 dr2 tx2 w4 hsim
set_option maxRecDepth 100000 in
set_option maxHeartbeats 4000000 in
theorem L_5 {L : Nat} {xs : Nat → Int32} {l : Launch} {n t dr tx bc bs : Nat} {w : zW} {i : Int} (hL0 : L < 2147483648) (h : zSim n t dr tx w) (hn : n ≤ 600) (i0 : 0 ≤ i) (i6 : i + 6 ≤ (L : Int)) (kk : ∀ (t2 dr2 tx2 : Nat) (w3 : zW), zSim (n + 1) t2 dr2 tx2 w3 → zB L xs l mL_law false 16 bc bs QL zNo 3195 [zR 4000, zR 0, zR 73, zR 121, zI i, .null, .null] [] (ZZ t2 dr2 tx2) w3) : zB L xs l mL_law false 16 (bc + 3) (bs + 18) QL zNo 522 [zR 4000, zR 0, zR 73, zR 121, zI i, .null, .null] [] (ZZ t dr tx) w := by
  have hp : zPr l n mX11_road mX12_road 1 0 false [zI (sc xs (i + 1)), zI (sc xs (i + 2))] t dr tx w := P_road h (inR_t _) (inR_t _)
  refine zB_aload_n dL_law_522 rfl ?_
  refine zB_rd dL_law_523 dL_law_524 dL_law_526 dL_law_527 dL_law_528 rfl rfl (by omega) (by omega) hL0 ?_
  refine zB_rd dL_law_529 dL_law_530 dL_law_532 dL_law_533 dL_law_534 rfl rfl (by omega) (by omega) hL0 ?_
  refine zB_aload_n dL_law_535 rfl ?_
  refine zB_callS (bc2 := bc) (bs2 := bs) (st := []) dL_law_536 sL_road kL_151 (w_road hp) (by decide) rfl rfl (Nat.le_of_ble_eq_true rfl) ⟨Nat.add_comm _ _, Nat.add_comm _ _⟩ (fun v S1 w1 hq => ?_) (fun E S1 w1 hx => hx.elim)
  obtain ⟨k, rfl, ⟨hk0, hk2⟩, ⟨t1, dr1, tx1, rfl⟩, d2, Q2, hd2, hsp, hk⟩ := hq
  have hkr : inR k := inR_mk (by omega) (by omega)
  show zB L xs l mL_law false 16 bc bs QL zNo 539 [zR 4000, zR 0, zR 73, zR 121, zI i, .null, .null] [zI k] (ZZ t1 dr1 tx1) w1
  refine zB_istore (lo1 := [zR 4000, zR 0, zR 73, zR 121, zI i, zI k, .null]) dL_law_539 (by decide) rfl rfl ?_
  refine zB_aload_n dL_law_541 rfl ?_
  refine zB_rd dL_law_542 dL_law_543 dL_law_545 dL_law_546 dL_law_547 rfl rfl (by omega) (by omega) hL0 ?_
  refine zB_rd dL_law_548 dL_law_549 dL_law_551 dL_law_552 dL_law_553 rfl rfl (by omega) (by omega) hL0 ?_
  refine zB_cV (st := []) dL_law_554 vX12_road kL_153 hsp (by omega) c73 rfl rfl (Nat.le_of_ble_eq_true rfl) rfl (fun v2 S2 w3 hq2 => ?_)
  obtain ⟨z, rfl, hzr, h73, h121, t2, dr2, tx2, rfl, hsim⟩ := hk v2 S2 w3 hq2
  show zB L xs l mL_law false 16 bc bs QL zNo 557 [zR 4000, zR 0, zR 73, zR 121, zI i, zI k, .null] [zI z] (ZZ t2 dr2 tx2) w3
  refine zB_istore (lo1 := [zR 4000, zR 0, zR 73, zR 121, zI i, zI k, zI z]) dL_law_557 (by decide) rfl rfl ?_
  refine zB_aload_n dL_law_559 rfl ?_
  refine zB_cV (st := []) dL_law_560 vX12_thrown kL_136 (m_thrown (w := w3)) (by decide) c73 rfl rfl (Nat.le_of_ble_eq_true rfl) rfl (fun v4 S4 w4 hq4 => ?_)
  obtain ⟨rfl, rfl, rfl⟩ := hq4
  show zB L xs l mL_law false 16 bc bs QL zNo 563 [zR 4000, zR 0, zR 73, zR 121, zI i, zI k, zI z] [zI (w4 73 1)] (ZZ t2 dr2 tx2) w4
  rw [h73]
  refine zB_iload dL_law_563 rfl ?_
  refine zB_icmp_eq (tgt := 570) dL_law_565 (by decide) hkr hkr (fun _ => ?_) (fun q => absurd rfl q)
  refine zB_iload dL_law_570 rfl ?_
  refine zB_if_ne (tgt := 587) dL_law_572 (by decide) hkr (fun _ => ?_) (fun q => ?_)
  · refine zB_goto (tgt := 3195) dL_law_587 (by decide) ?_
    refine zB_drop (lo1 := [zR 4000, zR 0, zR 73, zR 121, zI i, .null, zI z]) 5 rfl ?_
    refine zB_drop (lo1 := [zR 4000, zR 0, zR 73, zR 121, zI i, .null, .null]) 6 rfl ?_
    exact kk t2 dr2 tx2 w4 hsim
  · have h21 := h121 q
    rw [if_neg (by decide)] at h21
    refine zB_aload_n dL_law_575 rfl ?_
    refine zB_iconst dL_law_576 ?_
    refine zB_laload dL_law_577 c121 (by decide) (by decide) (by decide) ?_
    refine zB_iload dL_law_578 rfl ?_
    rw [h21]
    have hzl : -9223372036854775808 ≤ z ∧ z < 9223372036854775808 := by have h1 := hzr.1; have h2 := hzr.2; omega
    refine zB_i2l dL_law_580 hzr ?_
    refine zB_lcmp dL_law_581 hzl hzl ?_
    refine zB_valI 0 (by simp) ?_
    refine zB_if_eq (tgt := 587) dL_law_582 (by decide) ⟨by decide, by decide⟩ (fun _ => ?_) (fun q => absurd rfl q)
    refine zB_goto (tgt := 3195) dL_law_587 (by decide) ?_
    refine zB_drop (lo1 := [zR 4000, zR 0, zR 73, zR 121, zI i, .null, zI z]) 5 rfl ?_
    refine zB_drop (lo1 := [zR 4000, zR 0, zR 73, zR 121, zI i, .null, .null]) 6 rfl ?_
    exact kk t2 dr2 tx2 w4 hsim
set_option maxRecDepth 100000 in
set_option maxHeartbeats 4000000 in
theorem L_6 {L : Nat} {xs : Nat → Int32} {l : Launch} {n t dr tx bc bs : Nat} {w : zW} {i : Int} (hL0 : L < 2147483648) (h : zSim n t dr tx w) (hn : n ≤ 600) (i0 : 0 ≤ i) (i6 : i + 6 ≤ (L : Int)) (kk : ∀ (t2 dr2 tx2 : Nat) (w3 : zW), zSim (n + 1) t2 dr2 tx2 w3 → zB L xs l mL_law false 16 bc bs QL zNo 3195 [zR 4000, zR 0, zR 73, zR 121, zI i, .null, .null] [] (ZZ t2 dr2 tx2) w3) : zB L xs l mL_law false 16 (bc + 3) (bs + 18) QL zNo 590 [zR 4000, zR 0, zR 73, zR 121, zI i, .null, .null] [] (ZZ t dr tx) w := by
  have hp : zPr l n mX11_begins mX12_begins 1 2 false [zI (sc xs (i + 1)), zI (sc xs (i + 2))] t dr tx w := P_begins h (inR_t _) (inR_t _)
  refine zB_aload_n dL_law_590 rfl ?_
  refine zB_rd dL_law_591 dL_law_592 dL_law_594 dL_law_595 dL_law_596 rfl rfl (by omega) (by omega) hL0 ?_
  refine zB_rd dL_law_597 dL_law_598 dL_law_600 dL_law_601 dL_law_602 rfl rfl (by omega) (by omega) hL0 ?_
  refine zB_aload_n dL_law_603 rfl ?_
  refine zB_callS (bc2 := bc) (bs2 := bs) (st := []) dL_law_604 sL_begins kL_154 (w_begins hp) (by decide) rfl rfl (Nat.le_of_ble_eq_true rfl) ⟨Nat.add_comm _ _, Nat.add_comm _ _⟩ (fun v S1 w1 hq => ?_) (fun E S1 w1 hx => hx.elim)
  obtain ⟨k, rfl, ⟨hk0, hk2⟩, ⟨t1, dr1, tx1, rfl⟩, d2, Q2, hd2, hsp, hk⟩ := hq
  have hkr : inR k := inR_mk (by omega) (by omega)
  show zB L xs l mL_law false 16 bc bs QL zNo 607 [zR 4000, zR 0, zR 73, zR 121, zI i, .null, .null] [zI k] (ZZ t1 dr1 tx1) w1
  refine zB_istore (lo1 := [zR 4000, zR 0, zR 73, zR 121, zI i, zI k, .null]) dL_law_607 (by decide) rfl rfl ?_
  refine zB_aload_n dL_law_609 rfl ?_
  refine zB_rd dL_law_610 dL_law_611 dL_law_613 dL_law_614 dL_law_615 rfl rfl (by omega) (by omega) hL0 ?_
  refine zB_rd dL_law_616 dL_law_617 dL_law_619 dL_law_620 dL_law_621 rfl rfl (by omega) (by omega) hL0 ?_
  refine zB_cV (st := []) dL_law_622 vX12_begins kL_156 hsp (by omega) c73 rfl rfl (Nat.le_of_ble_eq_true rfl) rfl (fun v2 S2 w3 hq2 => ?_)
  obtain ⟨z, rfl, hzr, h73, h121, t2, dr2, tx2, rfl, hsim⟩ := hk v2 S2 w3 hq2
  show zB L xs l mL_law false 16 bc bs QL zNo 625 [zR 4000, zR 0, zR 73, zR 121, zI i, zI k, .null] [zI z] (ZZ t2 dr2 tx2) w3
  refine zB_istore (lo1 := [zR 4000, zR 0, zR 73, zR 121, zI i, zI k, zI z]) dL_law_625 (by decide) rfl rfl ?_
  refine zB_aload_n dL_law_627 rfl ?_
  refine zB_cV (st := []) dL_law_628 vX12_thrown kL_136 (m_thrown (w := w3)) (by decide) c73 rfl rfl (Nat.le_of_ble_eq_true rfl) rfl (fun v4 S4 w4 hq4 => ?_)
  obtain ⟨rfl, rfl, rfl⟩ := hq4
  show zB L xs l mL_law false 16 bc bs QL zNo 631 [zR 4000, zR 0, zR 73, zR 121, zI i, zI k, zI z] [zI (w4 73 1)] (ZZ t2 dr2 tx2) w4
  rw [h73]
  refine zB_iload dL_law_631 rfl ?_
  refine zB_icmp_eq (tgt := 638) dL_law_633 (by decide) hkr hkr (fun _ => ?_) (fun q => absurd rfl q)
  refine zB_iload dL_law_638 rfl ?_
  refine zB_if_ne (tgt := 655) dL_law_640 (by decide) hkr (fun _ => ?_) (fun q => ?_)
  · refine zB_goto (tgt := 3195) dL_law_655 (by decide) ?_
    refine zB_drop (lo1 := [zR 4000, zR 0, zR 73, zR 121, zI i, .null, zI z]) 5 rfl ?_
    refine zB_drop (lo1 := [zR 4000, zR 0, zR 73, zR 121, zI i, .null, .null]) 6 rfl ?_
    exact kk t2 dr2 tx2 w4 hsim
  · have h21 := h121 q
    rw [if_neg (by decide)] at h21
    refine zB_aload_n dL_law_643 rfl ?_
    refine zB_iconst dL_law_644 ?_
    refine zB_laload dL_law_645 c121 (by decide) (by decide) (by decide) ?_
    refine zB_iload dL_law_646 rfl ?_
    rw [h21]
    have hzl : -9223372036854775808 ≤ z ∧ z < 9223372036854775808 := by have h1 := hzr.1; have h2 := hzr.2; omega
    refine zB_i2l dL_law_648 hzr ?_
    refine zB_lcmp dL_law_649 hzl hzl ?_
    refine zB_valI 0 (by simp) ?_
    refine zB_if_eq (tgt := 655) dL_law_650 (by decide) ⟨by decide, by decide⟩ (fun _ => ?_) (fun q => absurd rfl q)
    refine zB_goto (tgt := 3195) dL_law_655 (by decide) ?_
    refine zB_drop (lo1 := [zR 4000, zR 0, zR 73, zR 121, zI i, .null, zI z]) 5 rfl ?_
    refine zB_drop (lo1 := [zR 4000, zR 0, zR 73, zR 121, zI i, .null, .null]) 6 rfl ?_
    exact kk t2 dr2 tx2 w4 hsim
set_option maxRecDepth 100000 in
set_option maxHeartbeats 4000000 in
theorem L_7 {L : Nat} {xs : Nat → Int32} {l : Launch} {n t dr tx bc bs : Nat} {w : zW} {i : Int} (hL0 : L < 2147483648) (h : zSim n t dr tx w) (hn : n ≤ 600) (i0 : 0 ≤ i) (i6 : i + 6 ≤ (L : Int)) (kk : ∀ (t2 dr2 tx2 : Nat) (w3 : zW), zSim (n + 1) t2 dr2 tx2 w3 → zB L xs l mL_law false 16 bc bs QL zNo 3195 [zR 4000, zR 0, zR 73, zR 121, zI i, .null, .null] [] (ZZ t2 dr2 tx2) w3) : zB L xs l mL_law false 16 (bc + 3) (bs + 18) QL zNo 658 [zR 4000, zR 0, zR 73, zR 121, zI i, .null, .null] [] (ZZ t dr tx) w := by
  obtain ⟨d, bc', bs', Q, X, ⟨hd, hbc, hbs⟩, hs, hret, hthr⟩ : zPr l n mX11_plan mX12_plan 0 0 false [] t dr tx w := P_plan h
  refine zB_aload_n dL_law_658 rfl ?_
  refine zB_callV (bc2 := bc + 3 - bc') (bs2 := bs + 18 - bs') (st := []) dL_law_659 vX11_plan kL_157 hs (by omega) rfl rfl (Nat.le_of_ble_eq_true rfl) c0 rfl ⟨by omega, by omega⟩ (fun v S1 w1 hq => ?_) (fun E S1 w1 hx => ?_)
  · obtain ⟨⟨t1, dr1, tx1, rfl⟩, hv, d2, Q2, hd2, hsp, hk⟩ := hret v S1 w1 hq w1 (fun _ _ _ => rfl)
    obtain ⟨z0, rfl⟩ : ∃ z, v = some (zI z) := hv
    obtain ⟨z, hz, hzr⟩ := zI_in z0
    show zB L xs l mL_law false 16 (bc + 3 - bc') (bs + 18 - bs') QL zNo 662 [zR 4000, zR 0, zR 73, zR 121, zI i, .null, .null] [zI z0] (ZZ t1 dr1 tx1) w1
    rw [hz]
    refine zB_aload_n dL_law_662 rfl ?_
    refine zB_cV (st := [zI z]) dL_law_663 vX12_plan kL_160 hsp (by omega) c73 rfl rfl (Nat.le_of_ble_eq_true rfl) rfl (fun v2 S2 w3 hq2 => ?_)
    obtain ⟨rfl, h1, h2, t2, dr2, tx2, rfl, hsim⟩ := hk v2 S2 w3 hq2
    show zB L xs l mL_law false 16 (bc + 3 - bc') (bs + 18 - bs') QL zNo 666 [zR 4000, zR 0, zR 73, zR 121, zI i, .null, .null] [zI z0, zI z] (ZZ t2 dr2 tx2) w3
    rw [hz]
    refine zB_icmp_eq (tgt := 3195) dL_law_666 (by decide) hzr hzr (fun _ => ?_) (fun q => absurd rfl q)
    exact zB_wk (by omega) (by omega) (kk t2 dr2 tx2 w3 hsim)
  · obtain ⟨k, ⟨-, -, h0⟩ | ⟨-, -, h0⟩, -⟩ := hthr E S1 w1 hx
    · exact absurd rfl h0
    · exact absurd rfl h0
set_option maxRecDepth 100000 in
set_option maxHeartbeats 4000000 in
theorem L_8 {L : Nat} {xs : Nat → Int32} {l : Launch} {n t dr tx bc bs : Nat} {w : zW} {i : Int} (hL0 : L < 2147483648) (h : zSim n t dr tx w) (hn : n ≤ 600) (i0 : 0 ≤ i) (i6 : i + 6 ≤ (L : Int)) (kk : ∀ (t2 dr2 tx2 : Nat) (w3 : zW), zSim (n + 1) t2 dr2 tx2 w3 → zB L xs l mL_law false 16 bc bs QL zNo 3195 [zR 4000, zR 0, zR 73, zR 121, zI i, .null, .null] [] (ZZ t2 dr2 tx2) w3) : zB L xs l mL_law false 16 (bc + 3) (bs + 18) QL zNo 671 [zR 4000, zR 0, zR 73, zR 121, zI i, .null, .null] [] (ZZ t dr tx) w := by
  have hp : zPr l n mX11_planned mX12_planned 1 0 false [zI (sc xs (i + 1)), zI (sc xs (i + 2))] t dr tx w := P_planned h (inR_t _) (inR_t _)
  refine zB_aload_n dL_law_671 rfl ?_
  refine zB_rd dL_law_672 dL_law_673 dL_law_675 dL_law_676 dL_law_677 rfl rfl (by omega) (by omega) hL0 ?_
  refine zB_rd dL_law_678 dL_law_679 dL_law_681 dL_law_682 dL_law_683 rfl rfl (by omega) (by omega) hL0 ?_
  refine zB_aload_n dL_law_684 rfl ?_
  refine zB_callS (bc2 := bc) (bs2 := bs) (st := []) dL_law_685 sL_planned kL_161 (w_planned hp) (by decide) rfl rfl (Nat.le_of_ble_eq_true rfl) ⟨Nat.add_comm _ _, Nat.add_comm _ _⟩ (fun v S1 w1 hq => ?_) (fun E S1 w1 hx => hx.elim)
  obtain ⟨k, rfl, ⟨hk0, hk2⟩, ⟨t1, dr1, tx1, rfl⟩, d2, Q2, hd2, hsp, hk⟩ := hq
  have hkr : inR k := inR_mk (by omega) (by omega)
  show zB L xs l mL_law false 16 bc bs QL zNo 688 [zR 4000, zR 0, zR 73, zR 121, zI i, .null, .null] [zI k] (ZZ t1 dr1 tx1) w1
  refine zB_istore (lo1 := [zR 4000, zR 0, zR 73, zR 121, zI i, zI k, .null]) dL_law_688 (by decide) rfl rfl ?_
  refine zB_aload_n dL_law_690 rfl ?_
  refine zB_rd dL_law_691 dL_law_692 dL_law_694 dL_law_695 dL_law_696 rfl rfl (by omega) (by omega) hL0 ?_
  refine zB_rd dL_law_697 dL_law_698 dL_law_700 dL_law_701 dL_law_702 rfl rfl (by omega) (by omega) hL0 ?_
  refine zB_cV (st := []) dL_law_703 vX12_planned kL_163 hsp (by omega) c73 rfl rfl (Nat.le_of_ble_eq_true rfl) rfl (fun v2 S2 w3 hq2 => ?_)
  obtain ⟨z, rfl, hzr, h73, h121, t2, dr2, tx2, rfl, hsim⟩ := hk v2 S2 w3 hq2
  show zB L xs l mL_law false 16 bc bs QL zNo 706 [zR 4000, zR 0, zR 73, zR 121, zI i, zI k, .null] [zI z] (ZZ t2 dr2 tx2) w3
  refine zB_istore (lo1 := [zR 4000, zR 0, zR 73, zR 121, zI i, zI k, zI z]) dL_law_706 (by decide) rfl rfl ?_
  refine zB_aload_n dL_law_708 rfl ?_
  refine zB_cV (st := []) dL_law_709 vX12_thrown kL_136 (m_thrown (w := w3)) (by decide) c73 rfl rfl (Nat.le_of_ble_eq_true rfl) rfl (fun v4 S4 w4 hq4 => ?_)
  obtain ⟨rfl, rfl, rfl⟩ := hq4
  show zB L xs l mL_law false 16 bc bs QL zNo 712 [zR 4000, zR 0, zR 73, zR 121, zI i, zI k, zI z] [zI (w4 73 1)] (ZZ t2 dr2 tx2) w4
  rw [h73]
  refine zB_iload dL_law_712 rfl ?_
  refine zB_icmp_eq (tgt := 719) dL_law_714 (by decide) hkr hkr (fun _ => ?_) (fun q => absurd rfl q)
  refine zB_iload dL_law_719 rfl ?_
  refine zB_if_ne (tgt := 736) dL_law_721 (by decide) hkr (fun _ => ?_) (fun q => ?_)
  · refine zB_goto (tgt := 3195) dL_law_736 (by decide) ?_
    refine zB_drop (lo1 := [zR 4000, zR 0, zR 73, zR 121, zI i, .null, zI z]) 5 rfl ?_
    refine zB_drop (lo1 := [zR 4000, zR 0, zR 73, zR 121, zI i, .null, .null]) 6 rfl ?_
    exact kk t2 dr2 tx2 w4 hsim
  · have h21 := h121 q
    rw [if_neg (by decide)] at h21
    refine zB_aload_n dL_law_724 rfl ?_
    refine zB_iconst dL_law_725 ?_
    refine zB_laload dL_law_726 c121 (by decide) (by decide) (by decide) ?_
    refine zB_iload dL_law_727 rfl ?_
    rw [h21]
    have hzl : -9223372036854775808 ≤ z ∧ z < 9223372036854775808 := by have h1 := hzr.1; have h2 := hzr.2; omega
    refine zB_i2l dL_law_729 hzr ?_
    refine zB_lcmp dL_law_730 hzl hzl ?_
    refine zB_valI 0 (by simp) ?_
    refine zB_if_eq (tgt := 736) dL_law_731 (by decide) ⟨by decide, by decide⟩ (fun _ => ?_) (fun q => absurd rfl q)
    refine zB_goto (tgt := 3195) dL_law_736 (by decide) ?_
    refine zB_drop (lo1 := [zR 4000, zR 0, zR 73, zR 121, zI i, .null, zI z]) 5 rfl ?_
    refine zB_drop (lo1 := [zR 4000, zR 0, zR 73, zR 121, zI i, .null, .null]) 6 rfl ?_
    exact kk t2 dr2 tx2 w4 hsim
set_option maxRecDepth 100000 in
set_option maxHeartbeats 4000000 in
theorem L_9 {L : Nat} {xs : Nat → Int32} {l : Launch} {n t dr tx bc bs : Nat} {w : zW} {i : Int} (hL0 : L < 2147483648) (h : zSim n t dr tx w) (hn : n ≤ 600) (i0 : 0 ≤ i) (i6 : i + 6 ≤ (L : Int)) (kk : ∀ (t2 dr2 tx2 : Nat) (w3 : zW), zSim (n + 1) t2 dr2 tx2 w3 → zB L xs l mL_law false 16 bc bs QL zNo 3195 [zR 4000, zR 0, zR 73, zR 121, zI i, .null, .null] [] (ZZ t2 dr2 tx2) w3) : zB L xs l mL_law false 16 (bc + 3) (bs + 18) QL zNo 739 [zR 4000, zR 0, zR 73, zR 121, zI i, .null, .null] [] (ZZ t dr tx) w := by
  have hp : zPr l n mX11_plumb mX12_plumb 1 0 false [zI (sc xs (i + 1)), zI (sc xs (i + 2)), zI (sc xs (i + 3))] t dr tx w := P_plumb h (inR_t _) (inR_t _) (inR_t _)
  refine zB_aload_n dL_law_739 rfl ?_
  refine zB_rd dL_law_740 dL_law_741 dL_law_743 dL_law_744 dL_law_745 rfl rfl (by omega) (by omega) hL0 ?_
  refine zB_rd dL_law_746 dL_law_747 dL_law_749 dL_law_750 dL_law_751 rfl rfl (by omega) (by omega) hL0 ?_
  refine zB_rd dL_law_752 dL_law_753 dL_law_755 dL_law_756 dL_law_757 rfl rfl (by omega) (by omega) hL0 ?_
  refine zB_aload_n dL_law_758 rfl ?_
  refine zB_callS (bc2 := bc) (bs2 := bs) (st := []) dL_law_759 sL_plumb kL_164 (w_plumb hp) (by decide) rfl rfl (Nat.le_of_ble_eq_true rfl) ⟨Nat.add_comm _ _, Nat.add_comm _ _⟩ (fun v S1 w1 hq => ?_) (fun E S1 w1 hx => hx.elim)
  obtain ⟨k, rfl, ⟨hk0, hk2⟩, ⟨t1, dr1, tx1, rfl⟩, d2, Q2, hd2, hsp, hk⟩ := hq
  have hkr : inR k := inR_mk (by omega) (by omega)
  show zB L xs l mL_law false 16 bc bs QL zNo 762 [zR 4000, zR 0, zR 73, zR 121, zI i, .null, .null] [zI k] (ZZ t1 dr1 tx1) w1
  refine zB_istore (lo1 := [zR 4000, zR 0, zR 73, zR 121, zI i, zI k, .null]) dL_law_762 (by decide) rfl rfl ?_
  refine zB_aload_n dL_law_764 rfl ?_
  refine zB_rd dL_law_765 dL_law_766 dL_law_768 dL_law_769 dL_law_770 rfl rfl (by omega) (by omega) hL0 ?_
  refine zB_rd dL_law_771 dL_law_772 dL_law_774 dL_law_775 dL_law_776 rfl rfl (by omega) (by omega) hL0 ?_
  refine zB_rd dL_law_777 dL_law_778 dL_law_780 dL_law_781 dL_law_782 rfl rfl (by omega) (by omega) hL0 ?_
  refine zB_cV (st := []) dL_law_783 vX12_plumb kL_167 hsp (by omega) c73 rfl rfl (Nat.le_of_ble_eq_true rfl) rfl (fun v2 S2 w3 hq2 => ?_)
  obtain ⟨z, rfl, hzr, h73, h121, t2, dr2, tx2, rfl, hsim⟩ := hk v2 S2 w3 hq2
  show zB L xs l mL_law false 16 bc bs QL zNo 786 [zR 4000, zR 0, zR 73, zR 121, zI i, zI k, .null] [zI z] (ZZ t2 dr2 tx2) w3
  refine zB_istore (lo1 := [zR 4000, zR 0, zR 73, zR 121, zI i, zI k, zI z]) dL_law_786 (by decide) rfl rfl ?_
  refine zB_aload_n dL_law_788 rfl ?_
  refine zB_cV (st := []) dL_law_789 vX12_thrown kL_136 (m_thrown (w := w3)) (by decide) c73 rfl rfl (Nat.le_of_ble_eq_true rfl) rfl (fun v4 S4 w4 hq4 => ?_)
  obtain ⟨rfl, rfl, rfl⟩ := hq4
  show zB L xs l mL_law false 16 bc bs QL zNo 792 [zR 4000, zR 0, zR 73, zR 121, zI i, zI k, zI z] [zI (w4 73 1)] (ZZ t2 dr2 tx2) w4
  rw [h73]
  refine zB_iload dL_law_792 rfl ?_
  refine zB_icmp_eq (tgt := 799) dL_law_794 (by decide) hkr hkr (fun _ => ?_) (fun q => absurd rfl q)
  refine zB_iload dL_law_799 rfl ?_
  refine zB_if_ne (tgt := 823) dL_law_801 (by decide) hkr (fun _ => ?_) (fun q => ?_)
  · refine zB_goto (tgt := 3195) dL_law_823 (by decide) ?_
    refine zB_drop (lo1 := [zR 4000, zR 0, zR 73, zR 121, zI i, .null, zI z]) 5 rfl ?_
    refine zB_drop (lo1 := [zR 4000, zR 0, zR 73, zR 121, zI i, .null, .null]) 6 rfl ?_
    exact kk t2 dr2 tx2 w4 hsim
  · have h21 := h121 q
    rw [if_pos rfl] at h21
    refine zB_aload_n dL_law_804 rfl ?_
    refine zB_iconst dL_law_805 ?_
    refine zB_laload dL_law_806 c121 (by decide) (by decide) (by decide) ?_
    refine zB_iload dL_law_807 rfl ?_
    rw [h21]
    refine zB_if_eq (tgt := 816) dL_law_809 (by decide) hzr (fun hz0 => ?_) (fun hz0 => ?_)
    · rw [if_pos hz0]
      refine zB_lconst dL_law_816 ?_
      refine zB_lcmp dL_law_817 ⟨by decide, by decide⟩ ⟨by decide, by decide⟩ ?_
      refine zB_valI 0 (by simp) ?_
      refine zB_if_eq (tgt := 823) dL_law_818 (by decide) ⟨by decide, by decide⟩ (fun _ => ?_) (fun q => absurd rfl q)
      refine zB_goto (tgt := 3195) dL_law_823 (by decide) ?_
      refine zB_drop (lo1 := [zR 4000, zR 0, zR 73, zR 121, zI i, .null, zI z]) 5 rfl ?_
      refine zB_drop (lo1 := [zR 4000, zR 0, zR 73, zR 121, zI i, .null, .null]) 6 rfl ?_
      exact kk t2 dr2 tx2 w4 hsim
    · rw [if_neg hz0]
      refine zB_lconst dL_law_812 ?_
      refine zB_goto (tgt := 817) dL_law_813 (by decide) ?_
      refine zB_lcmp dL_law_817 ⟨by decide, by decide⟩ ⟨by decide, by decide⟩ ?_
      refine zB_valI 0 (by simp) ?_
      refine zB_if_eq (tgt := 823) dL_law_818 (by decide) ⟨by decide, by decide⟩ (fun _ => ?_) (fun q => absurd rfl q)
      refine zB_goto (tgt := 3195) dL_law_823 (by decide) ?_
      refine zB_drop (lo1 := [zR 4000, zR 0, zR 73, zR 121, zI i, .null, zI z]) 5 rfl ?_
      refine zB_drop (lo1 := [zR 4000, zR 0, zR 73, zR 121, zI i, .null, .null]) 6 rfl ?_
      exact kk t2 dr2 tx2 w4 hsim
set_option maxRecDepth 100000 in
set_option maxHeartbeats 4000000 in
theorem L_10 {L : Nat} {xs : Nat → Int32} {l : Launch} {n t dr tx bc bs : Nat} {w : zW} {i : Int} (hL0 : L < 2147483648) (h : zSim n t dr tx w) (hn : n ≤ 600) (i0 : 0 ≤ i) (i6 : i + 6 ≤ (L : Int)) (kk : ∀ (t2 dr2 tx2 : Nat) (w3 : zW), zSim (n + 1) t2 dr2 tx2 w3 → zB L xs l mL_law false 16 bc bs QL zNo 3195 [zR 4000, zR 0, zR 73, zR 121, zI i, .null, .null] [] (ZZ t2 dr2 tx2) w3) : zB L xs l mL_law false 16 (bc + 3) (bs + 18) QL zNo 826 [zR 4000, zR 0, zR 73, zR 121, zI i, .null, .null] [] (ZZ t dr tx) w := by
  have hp : zPr l n mX11_doubt mX12_doubt 1 0 false [zI (sc xs (i + 1)), zI (sc xs (i + 2))] t dr tx w := P_doubt h (inR_t _) (inR_t _)
  refine zB_aload_n dL_law_826 rfl ?_
  refine zB_rd dL_law_827 dL_law_828 dL_law_830 dL_law_831 dL_law_832 rfl rfl (by omega) (by omega) hL0 ?_
  refine zB_rd dL_law_833 dL_law_834 dL_law_836 dL_law_837 dL_law_838 rfl rfl (by omega) (by omega) hL0 ?_
  refine zB_aload_n dL_law_839 rfl ?_
  refine zB_callS (bc2 := bc) (bs2 := bs) (st := []) dL_law_840 sL_doubt kL_168 (w_doubt hp) (by decide) rfl rfl (Nat.le_of_ble_eq_true rfl) ⟨Nat.add_comm _ _, Nat.add_comm _ _⟩ (fun v S1 w1 hq => ?_) (fun E S1 w1 hx => hx.elim)
  obtain ⟨k, rfl, ⟨hk0, hk2⟩, ⟨t1, dr1, tx1, rfl⟩, d2, Q2, hd2, hsp, hk⟩ := hq
  have hkr : inR k := inR_mk (by omega) (by omega)
  show zB L xs l mL_law false 16 bc bs QL zNo 843 [zR 4000, zR 0, zR 73, zR 121, zI i, .null, .null] [zI k] (ZZ t1 dr1 tx1) w1
  refine zB_istore (lo1 := [zR 4000, zR 0, zR 73, zR 121, zI i, zI k, .null]) dL_law_843 (by decide) rfl rfl ?_
  refine zB_aload_n dL_law_845 rfl ?_
  refine zB_rd dL_law_846 dL_law_847 dL_law_849 dL_law_850 dL_law_851 rfl rfl (by omega) (by omega) hL0 ?_
  refine zB_rd dL_law_852 dL_law_853 dL_law_855 dL_law_856 dL_law_857 rfl rfl (by omega) (by omega) hL0 ?_
  refine zB_cV (st := []) dL_law_858 vX12_doubt kL_170 hsp (by omega) c73 rfl rfl (Nat.le_of_ble_eq_true rfl) rfl (fun v2 S2 w3 hq2 => ?_)
  obtain ⟨z, rfl, hzr, h73, h121, t2, dr2, tx2, rfl, hsim⟩ := hk v2 S2 w3 hq2
  show zB L xs l mL_law false 16 bc bs QL zNo 861 [zR 4000, zR 0, zR 73, zR 121, zI i, zI k, .null] [zI z] (ZZ t2 dr2 tx2) w3
  refine zB_istore (lo1 := [zR 4000, zR 0, zR 73, zR 121, zI i, zI k, zI z]) dL_law_861 (by decide) rfl rfl ?_
  refine zB_aload_n dL_law_863 rfl ?_
  refine zB_cV (st := []) dL_law_864 vX12_thrown kL_136 (m_thrown (w := w3)) (by decide) c73 rfl rfl (Nat.le_of_ble_eq_true rfl) rfl (fun v4 S4 w4 hq4 => ?_)
  obtain ⟨rfl, rfl, rfl⟩ := hq4
  show zB L xs l mL_law false 16 bc bs QL zNo 867 [zR 4000, zR 0, zR 73, zR 121, zI i, zI k, zI z] [zI (w4 73 1)] (ZZ t2 dr2 tx2) w4
  rw [h73]
  refine zB_iload dL_law_867 rfl ?_
  refine zB_icmp_eq (tgt := 874) dL_law_869 (by decide) hkr hkr (fun _ => ?_) (fun q => absurd rfl q)
  refine zB_iload dL_law_874 rfl ?_
  refine zB_if_ne (tgt := 898) dL_law_876 (by decide) hkr (fun _ => ?_) (fun q => ?_)
  · refine zB_goto (tgt := 3195) dL_law_898 (by decide) ?_
    refine zB_drop (lo1 := [zR 4000, zR 0, zR 73, zR 121, zI i, .null, zI z]) 5 rfl ?_
    refine zB_drop (lo1 := [zR 4000, zR 0, zR 73, zR 121, zI i, .null, .null]) 6 rfl ?_
    exact kk t2 dr2 tx2 w4 hsim
  · have h21 := h121 q
    rw [if_pos rfl] at h21
    refine zB_aload_n dL_law_879 rfl ?_
    refine zB_iconst dL_law_880 ?_
    refine zB_laload dL_law_881 c121 (by decide) (by decide) (by decide) ?_
    refine zB_iload dL_law_882 rfl ?_
    rw [h21]
    refine zB_if_eq (tgt := 891) dL_law_884 (by decide) hzr (fun hz0 => ?_) (fun hz0 => ?_)
    · rw [if_pos hz0]
      refine zB_lconst dL_law_891 ?_
      refine zB_lcmp dL_law_892 ⟨by decide, by decide⟩ ⟨by decide, by decide⟩ ?_
      refine zB_valI 0 (by simp) ?_
      refine zB_if_eq (tgt := 898) dL_law_893 (by decide) ⟨by decide, by decide⟩ (fun _ => ?_) (fun q => absurd rfl q)
      refine zB_goto (tgt := 3195) dL_law_898 (by decide) ?_
      refine zB_drop (lo1 := [zR 4000, zR 0, zR 73, zR 121, zI i, .null, zI z]) 5 rfl ?_
      refine zB_drop (lo1 := [zR 4000, zR 0, zR 73, zR 121, zI i, .null, .null]) 6 rfl ?_
      exact kk t2 dr2 tx2 w4 hsim
    · rw [if_neg hz0]
      refine zB_lconst dL_law_887 ?_
      refine zB_goto (tgt := 892) dL_law_888 (by decide) ?_
      refine zB_lcmp dL_law_892 ⟨by decide, by decide⟩ ⟨by decide, by decide⟩ ?_
      refine zB_valI 0 (by simp) ?_
      refine zB_if_eq (tgt := 898) dL_law_893 (by decide) ⟨by decide, by decide⟩ (fun _ => ?_) (fun q => absurd rfl q)
      refine zB_goto (tgt := 3195) dL_law_898 (by decide) ?_
      refine zB_drop (lo1 := [zR 4000, zR 0, zR 73, zR 121, zI i, .null, zI z]) 5 rfl ?_
      refine zB_drop (lo1 := [zR 4000, zR 0, zR 73, zR 121, zI i, .null, .null]) 6 rfl ?_
      exact kk t2 dr2 tx2 w4 hsim
set_option maxRecDepth 100000 in
set_option maxHeartbeats 4000000 in
theorem L_11 {L : Nat} {xs : Nat → Int32} {l : Launch} {n t dr tx bc bs : Nat} {w : zW} {i : Int} (hL0 : L < 2147483648) (h : zSim n t dr tx w) (hn : n ≤ 600) (i0 : 0 ≤ i) (i6 : i + 6 ≤ (L : Int)) (kk : ∀ (t2 dr2 tx2 : Nat) (w3 : zW), zSim (n + 1) t2 dr2 tx2 w3 → zB L xs l mL_law false 16 bc bs QL zNo 3195 [zR 4000, zR 0, zR 73, zR 121, zI i, .null, .null] [] (ZZ t2 dr2 tx2) w3) : zB L xs l mL_law false 16 (bc + 3) (bs + 18) QL zNo 901 [zR 4000, zR 0, zR 73, zR 121, zI i, .null, .null] [] (ZZ t dr tx) w := by
  have hp : zPr l n mX11_lean mX12_lean 1 2 false [zI (sc xs (i + 1)), zI (sc xs (i + 2)), zI (sc xs (i + 3))] t dr tx w := P_lean h (inR_t _) (inR_t _) (inR_t _)
  refine zB_aload_n dL_law_901 rfl ?_
  refine zB_rd dL_law_902 dL_law_903 dL_law_905 dL_law_906 dL_law_907 rfl rfl (by omega) (by omega) hL0 ?_
  refine zB_rd dL_law_908 dL_law_909 dL_law_911 dL_law_912 dL_law_913 rfl rfl (by omega) (by omega) hL0 ?_
  refine zB_rd dL_law_914 dL_law_915 dL_law_917 dL_law_918 dL_law_919 rfl rfl (by omega) (by omega) hL0 ?_
  refine zB_aload_n dL_law_920 rfl ?_
  refine zB_callS (bc2 := bc) (bs2 := bs) (st := []) dL_law_921 sL_lean kL_171 (w_lean hp) (by decide) rfl rfl (Nat.le_of_ble_eq_true rfl) ⟨Nat.add_comm _ _, Nat.add_comm _ _⟩ (fun v S1 w1 hq => ?_) (fun E S1 w1 hx => hx.elim)
  obtain ⟨k, rfl, ⟨hk0, hk2⟩, ⟨t1, dr1, tx1, rfl⟩, d2, Q2, hd2, hsp, hk⟩ := hq
  have hkr : inR k := inR_mk (by omega) (by omega)
  show zB L xs l mL_law false 16 bc bs QL zNo 924 [zR 4000, zR 0, zR 73, zR 121, zI i, .null, .null] [zI k] (ZZ t1 dr1 tx1) w1
  refine zB_istore (lo1 := [zR 4000, zR 0, zR 73, zR 121, zI i, zI k, .null]) dL_law_924 (by decide) rfl rfl ?_
  refine zB_aload_n dL_law_926 rfl ?_
  refine zB_rd dL_law_927 dL_law_928 dL_law_930 dL_law_931 dL_law_932 rfl rfl (by omega) (by omega) hL0 ?_
  refine zB_rd dL_law_933 dL_law_934 dL_law_936 dL_law_937 dL_law_938 rfl rfl (by omega) (by omega) hL0 ?_
  refine zB_rd dL_law_939 dL_law_940 dL_law_942 dL_law_943 dL_law_944 rfl rfl (by omega) (by omega) hL0 ?_
  refine zB_cV (st := []) dL_law_945 vX12_lean kL_173 hsp (by omega) c73 rfl rfl (Nat.le_of_ble_eq_true rfl) rfl (fun v2 S2 w3 hq2 => ?_)
  obtain ⟨z, rfl, hzr, h73, h121, t2, dr2, tx2, rfl, hsim⟩ := hk v2 S2 w3 hq2
  show zB L xs l mL_law false 16 bc bs QL zNo 948 [zR 4000, zR 0, zR 73, zR 121, zI i, zI k, .null] [zI z] (ZZ t2 dr2 tx2) w3
  refine zB_istore (lo1 := [zR 4000, zR 0, zR 73, zR 121, zI i, zI k, zI z]) dL_law_948 (by decide) rfl rfl ?_
  refine zB_aload_n dL_law_950 rfl ?_
  refine zB_cV (st := []) dL_law_951 vX12_thrown kL_136 (m_thrown (w := w3)) (by decide) c73 rfl rfl (Nat.le_of_ble_eq_true rfl) rfl (fun v4 S4 w4 hq4 => ?_)
  obtain ⟨rfl, rfl, rfl⟩ := hq4
  show zB L xs l mL_law false 16 bc bs QL zNo 954 [zR 4000, zR 0, zR 73, zR 121, zI i, zI k, zI z] [zI (w4 73 1)] (ZZ t2 dr2 tx2) w4
  rw [h73]
  refine zB_iload dL_law_954 rfl ?_
  refine zB_icmp_eq (tgt := 961) dL_law_956 (by decide) hkr hkr (fun _ => ?_) (fun q => absurd rfl q)
  refine zB_iload dL_law_961 rfl ?_
  refine zB_if_ne (tgt := 978) dL_law_963 (by decide) hkr (fun _ => ?_) (fun q => ?_)
  · refine zB_goto (tgt := 3195) dL_law_978 (by decide) ?_
    refine zB_drop (lo1 := [zR 4000, zR 0, zR 73, zR 121, zI i, .null, zI z]) 5 rfl ?_
    refine zB_drop (lo1 := [zR 4000, zR 0, zR 73, zR 121, zI i, .null, .null]) 6 rfl ?_
    exact kk t2 dr2 tx2 w4 hsim
  · have h21 := h121 q
    rw [if_neg (by decide)] at h21
    refine zB_aload_n dL_law_966 rfl ?_
    refine zB_iconst dL_law_967 ?_
    refine zB_laload dL_law_968 c121 (by decide) (by decide) (by decide) ?_
    refine zB_iload dL_law_969 rfl ?_
    rw [h21]
    have hzl : -9223372036854775808 ≤ z ∧ z < 9223372036854775808 := by have h1 := hzr.1; have h2 := hzr.2; omega
    refine zB_i2l dL_law_971 hzr ?_
    refine zB_lcmp dL_law_972 hzl hzl ?_
    refine zB_valI 0 (by simp) ?_
    refine zB_if_eq (tgt := 978) dL_law_973 (by decide) ⟨by decide, by decide⟩ (fun _ => ?_) (fun q => absurd rfl q)
    refine zB_goto (tgt := 3195) dL_law_978 (by decide) ?_
    refine zB_drop (lo1 := [zR 4000, zR 0, zR 73, zR 121, zI i, .null, zI z]) 5 rfl ?_
    refine zB_drop (lo1 := [zR 4000, zR 0, zR 73, zR 121, zI i, .null, .null]) 6 rfl ?_
    exact kk t2 dr2 tx2 w4 hsim
set_option maxRecDepth 100000 in
set_option maxHeartbeats 4000000 in
theorem L_12 {L : Nat} {xs : Nat → Int32} {l : Launch} {n t dr tx bc bs : Nat} {w : zW} {i : Int} (hL0 : L < 2147483648) (h : zSim n t dr tx w) (hn : n ≤ 600) (i0 : 0 ≤ i) (i6 : i + 6 ≤ (L : Int)) (kk : ∀ (t2 dr2 tx2 : Nat) (w3 : zW), zSim (n + 1) t2 dr2 tx2 w3 → zB L xs l mL_law false 16 bc bs QL zNo 3195 [zR 4000, zR 0, zR 73, zR 121, zI i, .null, .null] [] (ZZ t2 dr2 tx2) w3) : zB L xs l mL_law false 16 (bc + 3) (bs + 18) QL zNo 981 [zR 4000, zR 0, zR 73, zR 121, zI i, .null, .null] [] (ZZ t dr tx) w := by
  have hp : zPr l n mX11_limit mX12_limit 1 0 false [zI (sc xs (i + 1)), zI (sc xs (i + 2)), zI (sc xs (i + 3))] t dr tx w := P_limit h (inR_t _) (inR_t _) (inR_t _)
  refine zB_aload_n dL_law_981 rfl ?_
  refine zB_rd dL_law_982 dL_law_983 dL_law_985 dL_law_986 dL_law_987 rfl rfl (by omega) (by omega) hL0 ?_
  refine zB_rd dL_law_988 dL_law_989 dL_law_991 dL_law_992 dL_law_993 rfl rfl (by omega) (by omega) hL0 ?_
  refine zB_rd dL_law_994 dL_law_995 dL_law_997 dL_law_998 dL_law_999 rfl rfl (by omega) (by omega) hL0 ?_
  refine zB_aload_n dL_law_1000 rfl ?_
  refine zB_callS (bc2 := bc) (bs2 := bs) (st := []) dL_law_1001 sL_limit kL_174 (w_limit hp) (by decide) rfl rfl (Nat.le_of_ble_eq_true rfl) ⟨Nat.add_comm _ _, Nat.add_comm _ _⟩ (fun v S1 w1 hq => ?_) (fun E S1 w1 hx => hx.elim)
  obtain ⟨k, rfl, ⟨hk0, hk2⟩, ⟨t1, dr1, tx1, rfl⟩, d2, Q2, hd2, hsp, hk⟩ := hq
  have hkr : inR k := inR_mk (by omega) (by omega)
  show zB L xs l mL_law false 16 bc bs QL zNo 1004 [zR 4000, zR 0, zR 73, zR 121, zI i, .null, .null] [zI k] (ZZ t1 dr1 tx1) w1
  refine zB_istore (lo1 := [zR 4000, zR 0, zR 73, zR 121, zI i, zI k, .null]) dL_law_1004 (by decide) rfl rfl ?_
  refine zB_aload_n dL_law_1006 rfl ?_
  refine zB_rd dL_law_1007 dL_law_1008 dL_law_1010 dL_law_1011 dL_law_1012 rfl rfl (by omega) (by omega) hL0 ?_
  refine zB_rd dL_law_1013 dL_law_1014 dL_law_1016 dL_law_1017 dL_law_1018 rfl rfl (by omega) (by omega) hL0 ?_
  refine zB_rd dL_law_1019 dL_law_1020 dL_law_1022 dL_law_1023 dL_law_1024 rfl rfl (by omega) (by omega) hL0 ?_
  refine zB_cV (st := []) dL_law_1025 vX12_limit kL_176 hsp (by omega) c73 rfl rfl (Nat.le_of_ble_eq_true rfl) rfl (fun v2 S2 w3 hq2 => ?_)
  obtain ⟨z, rfl, hzr, h73, h121, t2, dr2, tx2, rfl, hsim⟩ := hk v2 S2 w3 hq2
  show zB L xs l mL_law false 16 bc bs QL zNo 1028 [zR 4000, zR 0, zR 73, zR 121, zI i, zI k, .null] [zI z] (ZZ t2 dr2 tx2) w3
  refine zB_istore (lo1 := [zR 4000, zR 0, zR 73, zR 121, zI i, zI k, zI z]) dL_law_1028 (by decide) rfl rfl ?_
  refine zB_aload_n dL_law_1030 rfl ?_
  refine zB_cV (st := []) dL_law_1031 vX12_thrown kL_136 (m_thrown (w := w3)) (by decide) c73 rfl rfl (Nat.le_of_ble_eq_true rfl) rfl (fun v4 S4 w4 hq4 => ?_)
  obtain ⟨rfl, rfl, rfl⟩ := hq4
  show zB L xs l mL_law false 16 bc bs QL zNo 1034 [zR 4000, zR 0, zR 73, zR 121, zI i, zI k, zI z] [zI (w4 73 1)] (ZZ t2 dr2 tx2) w4
  rw [h73]
  refine zB_iload dL_law_1034 rfl ?_
  refine zB_icmp_eq (tgt := 1041) dL_law_1036 (by decide) hkr hkr (fun _ => ?_) (fun q => absurd rfl q)
  refine zB_iload dL_law_1041 rfl ?_
  refine zB_if_ne (tgt := 1058) dL_law_1043 (by decide) hkr (fun _ => ?_) (fun q => ?_)
  · refine zB_goto (tgt := 3195) dL_law_1058 (by decide) ?_
    refine zB_drop (lo1 := [zR 4000, zR 0, zR 73, zR 121, zI i, .null, zI z]) 5 rfl ?_
    refine zB_drop (lo1 := [zR 4000, zR 0, zR 73, zR 121, zI i, .null, .null]) 6 rfl ?_
    exact kk t2 dr2 tx2 w4 hsim
  · have h21 := h121 q
    rw [if_neg (by decide)] at h21
    refine zB_aload_n dL_law_1046 rfl ?_
    refine zB_iconst dL_law_1047 ?_
    refine zB_laload dL_law_1048 c121 (by decide) (by decide) (by decide) ?_
    refine zB_iload dL_law_1049 rfl ?_
    rw [h21]
    have hzl : -9223372036854775808 ≤ z ∧ z < 9223372036854775808 := by have h1 := hzr.1; have h2 := hzr.2; omega
    refine zB_i2l dL_law_1051 hzr ?_
    refine zB_lcmp dL_law_1052 hzl hzl ?_
    refine zB_valI 0 (by simp) ?_
    refine zB_if_eq (tgt := 1058) dL_law_1053 (by decide) ⟨by decide, by decide⟩ (fun _ => ?_) (fun q => absurd rfl q)
    refine zB_goto (tgt := 3195) dL_law_1058 (by decide) ?_
    refine zB_drop (lo1 := [zR 4000, zR 0, zR 73, zR 121, zI i, .null, zI z]) 5 rfl ?_
    refine zB_drop (lo1 := [zR 4000, zR 0, zR 73, zR 121, zI i, .null, .null]) 6 rfl ?_
    exact kk t2 dr2 tx2 w4 hsim
set_option maxRecDepth 100000 in
set_option maxHeartbeats 4000000 in
theorem L_13 {L : Nat} {xs : Nat → Int32} {l : Launch} {n t dr tx bc bs : Nat} {w : zW} {i : Int} (hL0 : L < 2147483648) (h : zSim n t dr tx w) (hn : n ≤ 600) (i0 : 0 ≤ i) (i6 : i + 6 ≤ (L : Int)) (kk : ∀ (t2 dr2 tx2 : Nat) (w3 : zW), zSim (n + 1) t2 dr2 tx2 w3 → zB L xs l mL_law false 16 bc bs QL zNo 3195 [zR 4000, zR 0, zR 73, zR 121, zI i, .null, .null] [] (ZZ t2 dr2 tx2) w3) : zB L xs l mL_law false 16 (bc + 3) (bs + 18) QL zNo 1061 [zR 4000, zR 0, zR 73, zR 121, zI i, .null, .null] [] (ZZ t dr tx) w := by
  obtain ⟨d, bc', bs', Q, X, ⟨hd, hbc, hbs⟩, hs, hret, hthr⟩ : zPr l n mX11_rod mX12_rod 0 0 false [zI (sc xs (i + 1)), zI (sc xs (i + 2)), zI (sc xs (i + 3))] t dr tx w := P_rod h (inR_t _) (inR_t _) (inR_t _)
  refine zB_aload_n dL_law_1061 rfl ?_
  refine zB_rd dL_law_1062 dL_law_1063 dL_law_1065 dL_law_1066 dL_law_1067 rfl rfl (by omega) (by omega) hL0 ?_
  refine zB_rd dL_law_1068 dL_law_1069 dL_law_1071 dL_law_1072 dL_law_1073 rfl rfl (by omega) (by omega) hL0 ?_
  refine zB_rd dL_law_1074 dL_law_1075 dL_law_1077 dL_law_1078 dL_law_1079 rfl rfl (by omega) (by omega) hL0 ?_
  refine zB_callV (bc2 := bc + 3 - bc') (bs2 := bs + 18 - bs') (st := []) dL_law_1080 vX11_rod kL_177 hs (by omega) rfl rfl (Nat.le_of_ble_eq_true rfl) c0 rfl ⟨by omega, by omega⟩ (fun v S1 w1 hq => ?_) (fun E S1 w1 hx => ?_)
  · obtain ⟨⟨t1, dr1, tx1, rfl⟩, hv, d2, Q2, hd2, hsp, hk⟩ := hret v S1 w1 hq w1 (fun _ _ _ => rfl)
    obtain ⟨z0, rfl⟩ : ∃ z, v = some (zI z) := hv
    obtain ⟨z, hz, hzr⟩ := zI_in z0
    show zB L xs l mL_law false 16 (bc + 3 - bc') (bs + 18 - bs') QL zNo 1083 [zR 4000, zR 0, zR 73, zR 121, zI i, .null, .null] [zI z0] (ZZ t1 dr1 tx1) w1
    rw [hz]
    refine zB_aload_n dL_law_1083 rfl ?_
    refine zB_rd dL_law_1084 dL_law_1085 dL_law_1087 dL_law_1088 dL_law_1089 rfl rfl (by omega) (by omega) hL0 ?_
    refine zB_rd dL_law_1090 dL_law_1091 dL_law_1093 dL_law_1094 dL_law_1095 rfl rfl (by omega) (by omega) hL0 ?_
    refine zB_rd dL_law_1096 dL_law_1097 dL_law_1099 dL_law_1100 dL_law_1101 rfl rfl (by omega) (by omega) hL0 ?_
    refine zB_cV (st := [zI z]) dL_law_1102 vX12_rod kL_180 hsp (by omega) c73 rfl rfl (Nat.le_of_ble_eq_true rfl) rfl (fun v2 S2 w3 hq2 => ?_)
    obtain ⟨rfl, h1, h2, t2, dr2, tx2, rfl, hsim⟩ := hk v2 S2 w3 hq2
    show zB L xs l mL_law false 16 (bc + 3 - bc') (bs + 18 - bs') QL zNo 1105 [zR 4000, zR 0, zR 73, zR 121, zI i, .null, .null] [zI z0, zI z] (ZZ t2 dr2 tx2) w3
    rw [hz]
    refine zB_icmp_eq (tgt := 3195) dL_law_1105 (by decide) hzr hzr (fun _ => ?_) (fun q => absurd rfl q)
    exact zB_wk (by omega) (by omega) (kk t2 dr2 tx2 w3 hsim)
  · obtain ⟨k, ⟨-, -, h0⟩ | ⟨-, -, h0⟩, -⟩ := hthr E S1 w1 hx
    · exact absurd rfl h0
    · exact absurd rfl h0
set_option maxRecDepth 100000 in
set_option maxHeartbeats 4000000 in
theorem L_14 {L : Nat} {xs : Nat → Int32} {l : Launch} {n t dr tx bc bs : Nat} {w : zW} {i : Int} (hL0 : L < 2147483648) (h : zSim n t dr tx w) (hn : n ≤ 600) (i0 : 0 ≤ i) (i6 : i + 6 ≤ (L : Int)) (kk : ∀ (t2 dr2 tx2 : Nat) (w3 : zW), zSim (n + 1) t2 dr2 tx2 w3 → zB L xs l mL_law false 16 bc bs QL zNo 3195 [zR 4000, zR 0, zR 73, zR 121, zI i, .null, .null] [] (ZZ t2 dr2 tx2) w3) : zB L xs l mL_law false 16 (bc + 3) (bs + 18) QL zNo 1110 [zR 4000, zR 0, zR 73, zR 121, zI i, .null, .null] [] (ZZ t dr tx) w := by
  obtain ⟨d, bc', bs', Q, X, ⟨hd, hbc, hbs⟩, hs, hret, hthr⟩ : zPr l n mX11_wall mX12_wall 0 0 false [zI (sc xs (i + 1))] t dr tx w := P_wall h (inR_t _)
  refine zB_aload_n dL_law_1110 rfl ?_
  refine zB_rd dL_law_1111 dL_law_1112 dL_law_1114 dL_law_1115 dL_law_1116 rfl rfl (by omega) (by omega) hL0 ?_
  refine zB_callV (bc2 := bc + 3 - bc') (bs2 := bs + 18 - bs') (st := []) dL_law_1117 vX11_wall kL_181 hs (by omega) rfl rfl (Nat.le_of_ble_eq_true rfl) c0 rfl ⟨by omega, by omega⟩ (fun v S1 w1 hq => ?_) (fun E S1 w1 hx => ?_)
  · obtain ⟨⟨t1, dr1, tx1, rfl⟩, hv, d2, Q2, hd2, hsp, hk⟩ := hret v S1 w1 hq w1 (fun _ _ _ => rfl)
    obtain ⟨z0, rfl⟩ : ∃ z, v = some (zI z) := hv
    obtain ⟨z, hz, hzr⟩ := zI_in z0
    show zB L xs l mL_law false 16 (bc + 3 - bc') (bs + 18 - bs') QL zNo 1120 [zR 4000, zR 0, zR 73, zR 121, zI i, .null, .null] [zI z0] (ZZ t1 dr1 tx1) w1
    rw [hz]
    refine zB_aload_n dL_law_1120 rfl ?_
    refine zB_rd dL_law_1121 dL_law_1122 dL_law_1124 dL_law_1125 dL_law_1126 rfl rfl (by omega) (by omega) hL0 ?_
    refine zB_cV (st := [zI z]) dL_law_1127 vX12_wall kL_185 hsp (by omega) c73 rfl rfl (Nat.le_of_ble_eq_true rfl) rfl (fun v2 S2 w3 hq2 => ?_)
    obtain ⟨rfl, h1, h2, t2, dr2, tx2, rfl, hsim⟩ := hk v2 S2 w3 hq2
    show zB L xs l mL_law false 16 (bc + 3 - bc') (bs + 18 - bs') QL zNo 1130 [zR 4000, zR 0, zR 73, zR 121, zI i, .null, .null] [zI z0, zI z] (ZZ t2 dr2 tx2) w3
    rw [hz]
    refine zB_icmp_eq (tgt := 3195) dL_law_1130 (by decide) hzr hzr (fun _ => ?_) (fun q => absurd rfl q)
    exact zB_wk (by omega) (by omega) (kk t2 dr2 tx2 w3 hsim)
  · obtain ⟨k, ⟨-, -, h0⟩ | ⟨-, -, h0⟩, -⟩ := hthr E S1 w1 hx
    · exact absurd rfl h0
    · exact absurd rfl h0
set_option maxRecDepth 100000 in
set_option maxHeartbeats 4000000 in
theorem L_15 {L : Nat} {xs : Nat → Int32} {l : Launch} {n t dr tx bc bs : Nat} {w : zW} {i : Int} (hL0 : L < 2147483648) (h : zSim n t dr tx w) (hn : n ≤ 600) (i0 : 0 ≤ i) (i6 : i + 6 ≤ (L : Int)) (kk : ∀ (t2 dr2 tx2 : Nat) (w3 : zW), zSim (n + 1) t2 dr2 tx2 w3 → zB L xs l mL_law false 16 bc bs QL zNo 3195 [zR 4000, zR 0, zR 73, zR 121, zI i, .null, .null] [] (ZZ t2 dr2 tx2) w3) : zB L xs l mL_law false 16 (bc + 3) (bs + 18) QL zNo 1135 [zR 4000, zR 0, zR 73, zR 121, zI i, .null, .null] [] (ZZ t dr tx) w := by
  have hp : zPr l n mX11_tell mX12_tell 0 1 false [zI (sc xs (i + 1)), zI (sc xs (i + 2)), zI (sc xs (i + 3))] t dr tx w := P_tell h (inR_t _) (inR_t _) (inR_t _)
  refine zB_aload_n dL_law_1135 rfl ?_
  refine zB_rd dL_law_1136 dL_law_1137 dL_law_1139 dL_law_1140 dL_law_1141 rfl rfl (by omega) (by omega) hL0 ?_
  refine zB_rd dL_law_1142 dL_law_1143 dL_law_1145 dL_law_1146 dL_law_1147 rfl rfl (by omega) (by omega) hL0 ?_
  refine zB_rd dL_law_1148 dL_law_1149 dL_law_1151 dL_law_1152 dL_law_1153 rfl rfl (by omega) (by omega) hL0 ?_
  refine zB_aload_n dL_law_1154 rfl ?_
  refine zB_callS (bc2 := bc) (bs2 := bs) (st := []) dL_law_1155 sL_tell kL_186 (w_tell hp) (by decide) rfl rfl (Nat.le_of_ble_eq_true rfl) ⟨Nat.add_comm _ _, Nat.add_comm _ _⟩ (fun v S1 w1 hq => ?_) (fun E S1 w1 hx => hx.elim)
  obtain ⟨k, rfl, ⟨hk0, hk2⟩, ⟨t1, dr1, tx1, rfl⟩, d2, Q2, hd2, hsp, hk⟩ := hq
  have hkr : inR k := inR_mk (by omega) (by omega)
  show zB L xs l mL_law false 16 bc bs QL zNo 1158 [zR 4000, zR 0, zR 73, zR 121, zI i, .null, .null] [zI k] (ZZ t1 dr1 tx1) w1
  refine zB_istore (lo1 := [zR 4000, zR 0, zR 73, zR 121, zI i, zI k, .null]) dL_law_1158 (by decide) rfl rfl ?_
  refine zB_aload_n dL_law_1160 rfl ?_
  refine zB_rd dL_law_1161 dL_law_1162 dL_law_1164 dL_law_1165 dL_law_1166 rfl rfl (by omega) (by omega) hL0 ?_
  refine zB_rd dL_law_1167 dL_law_1168 dL_law_1170 dL_law_1171 dL_law_1172 rfl rfl (by omega) (by omega) hL0 ?_
  refine zB_rd dL_law_1173 dL_law_1174 dL_law_1176 dL_law_1177 dL_law_1178 rfl rfl (by omega) (by omega) hL0 ?_
  refine zB_cV (st := []) dL_law_1179 vX12_tell kL_188 hsp (by omega) c73 rfl rfl (Nat.le_of_ble_eq_true rfl) rfl (fun v2 S2 w3 hq2 => ?_)
  obtain ⟨z, rfl, hzr, h73, h121, t2, dr2, tx2, rfl, hsim⟩ := hk v2 S2 w3 hq2
  show zB L xs l mL_law false 16 bc bs QL zNo 1182 [zR 4000, zR 0, zR 73, zR 121, zI i, zI k, .null] [zI z] (ZZ t2 dr2 tx2) w3
  refine zB_istore (lo1 := [zR 4000, zR 0, zR 73, zR 121, zI i, zI k, zI z]) dL_law_1182 (by decide) rfl rfl ?_
  refine zB_aload_n dL_law_1184 rfl ?_
  refine zB_cV (st := []) dL_law_1185 vX12_thrown kL_136 (m_thrown (w := w3)) (by decide) c73 rfl rfl (Nat.le_of_ble_eq_true rfl) rfl (fun v4 S4 w4 hq4 => ?_)
  obtain ⟨rfl, rfl, rfl⟩ := hq4
  show zB L xs l mL_law false 16 bc bs QL zNo 1188 [zR 4000, zR 0, zR 73, zR 121, zI i, zI k, zI z] [zI (w4 73 1)] (ZZ t2 dr2 tx2) w4
  rw [h73]
  refine zB_iload dL_law_1188 rfl ?_
  refine zB_icmp_eq (tgt := 1195) dL_law_1190 (by decide) hkr hkr (fun _ => ?_) (fun q => absurd rfl q)
  refine zB_iload dL_law_1195 rfl ?_
  refine zB_if_ne (tgt := 1212) dL_law_1197 (by decide) hkr (fun _ => ?_) (fun q => ?_)
  · refine zB_goto (tgt := 3195) dL_law_1212 (by decide) ?_
    refine zB_drop (lo1 := [zR 4000, zR 0, zR 73, zR 121, zI i, .null, zI z]) 5 rfl ?_
    refine zB_drop (lo1 := [zR 4000, zR 0, zR 73, zR 121, zI i, .null, .null]) 6 rfl ?_
    exact kk t2 dr2 tx2 w4 hsim
  · have h21 := h121 q
    rw [if_neg (by decide)] at h21
    refine zB_aload_n dL_law_1200 rfl ?_
    refine zB_iconst dL_law_1201 ?_
    refine zB_laload dL_law_1202 c121 (by decide) (by decide) (by decide) ?_
    refine zB_iload dL_law_1203 rfl ?_
    rw [h21]
    have hzl : -9223372036854775808 ≤ z ∧ z < 9223372036854775808 := by have h1 := hzr.1; have h2 := hzr.2; omega
    refine zB_i2l dL_law_1205 hzr ?_
    refine zB_lcmp dL_law_1206 hzl hzl ?_
    refine zB_valI 0 (by simp) ?_
    refine zB_if_eq (tgt := 1212) dL_law_1207 (by decide) ⟨by decide, by decide⟩ (fun _ => ?_) (fun q => absurd rfl q)
    refine zB_goto (tgt := 3195) dL_law_1212 (by decide) ?_
    refine zB_drop (lo1 := [zR 4000, zR 0, zR 73, zR 121, zI i, .null, zI z]) 5 rfl ?_
    refine zB_drop (lo1 := [zR 4000, zR 0, zR 73, zR 121, zI i, .null, .null]) 6 rfl ?_
    exact kk t2 dr2 tx2 w4 hsim
set_option maxRecDepth 100000 in
set_option maxHeartbeats 4000000 in
theorem L_16 {L : Nat} {xs : Nat → Int32} {l : Launch} {n t dr tx bc bs : Nat} {w : zW} {i : Int} (hL0 : L < 2147483648) (h : zSim n t dr tx w) (hn : n ≤ 600) (i0 : 0 ≤ i) (i6 : i + 6 ≤ (L : Int)) (kk : ∀ (t2 dr2 tx2 : Nat) (w3 : zW), zSim (n + 1) t2 dr2 tx2 w3 → zB L xs l mL_law false 16 bc bs QL zNo 3195 [zR 4000, zR 0, zR 73, zR 121, zI i, .null, .null] [] (ZZ t2 dr2 tx2) w3) : zB L xs l mL_law false 16 (bc + 3) (bs + 18) QL zNo 1215 [zR 4000, zR 0, zR 73, zR 121, zI i, .null, .null] [] (ZZ t dr tx) w := by
  have hp : zPr l n mX11_sure mX12_sure 1 2 false [zI (sc xs (i + 1))] t dr tx w := P_sure h (inR_t _)
  refine zB_aload_n dL_law_1215 rfl ?_
  refine zB_rd dL_law_1216 dL_law_1217 dL_law_1219 dL_law_1220 dL_law_1221 rfl rfl (by omega) (by omega) hL0 ?_
  refine zB_aload_n dL_law_1222 rfl ?_
  refine zB_callS (bc2 := bc) (bs2 := bs) (st := []) dL_law_1223 sL_sure kL_189 (w_sure hp) (by decide) rfl rfl (Nat.le_of_ble_eq_true rfl) ⟨Nat.add_comm _ _, Nat.add_comm _ _⟩ (fun v S1 w1 hq => ?_) (fun E S1 w1 hx => hx.elim)
  obtain ⟨k, rfl, ⟨hk0, hk2⟩, ⟨t1, dr1, tx1, rfl⟩, d2, Q2, hd2, hsp, hk⟩ := hq
  have hkr : inR k := inR_mk (by omega) (by omega)
  show zB L xs l mL_law false 16 bc bs QL zNo 1226 [zR 4000, zR 0, zR 73, zR 121, zI i, .null, .null] [zI k] (ZZ t1 dr1 tx1) w1
  refine zB_istore (lo1 := [zR 4000, zR 0, zR 73, zR 121, zI i, zI k, .null]) dL_law_1226 (by decide) rfl rfl ?_
  refine zB_aload_n dL_law_1228 rfl ?_
  refine zB_rd dL_law_1229 dL_law_1230 dL_law_1232 dL_law_1233 dL_law_1234 rfl rfl (by omega) (by omega) hL0 ?_
  refine zB_cV (st := []) dL_law_1235 vX12_sure kL_191 hsp (by omega) c73 rfl rfl (Nat.le_of_ble_eq_true rfl) rfl (fun v2 S2 w3 hq2 => ?_)
  obtain ⟨z, rfl, hzr, h73, h121, t2, dr2, tx2, rfl, hsim⟩ := hk v2 S2 w3 hq2
  show zB L xs l mL_law false 16 bc bs QL zNo 1238 [zR 4000, zR 0, zR 73, zR 121, zI i, zI k, .null] [zI z] (ZZ t2 dr2 tx2) w3
  refine zB_istore (lo1 := [zR 4000, zR 0, zR 73, zR 121, zI i, zI k, zI z]) dL_law_1238 (by decide) rfl rfl ?_
  refine zB_aload_n dL_law_1240 rfl ?_
  refine zB_cV (st := []) dL_law_1241 vX12_thrown kL_136 (m_thrown (w := w3)) (by decide) c73 rfl rfl (Nat.le_of_ble_eq_true rfl) rfl (fun v4 S4 w4 hq4 => ?_)
  obtain ⟨rfl, rfl, rfl⟩ := hq4
  show zB L xs l mL_law false 16 bc bs QL zNo 1244 [zR 4000, zR 0, zR 73, zR 121, zI i, zI k, zI z] [zI (w4 73 1)] (ZZ t2 dr2 tx2) w4
  rw [h73]
  refine zB_iload dL_law_1244 rfl ?_
  refine zB_icmp_eq (tgt := 1251) dL_law_1246 (by decide) hkr hkr (fun _ => ?_) (fun q => absurd rfl q)
  refine zB_iload dL_law_1251 rfl ?_
  refine zB_if_ne (tgt := 1268) dL_law_1253 (by decide) hkr (fun _ => ?_) (fun q => ?_)
  · refine zB_goto (tgt := 3195) dL_law_1268 (by decide) ?_
    refine zB_drop (lo1 := [zR 4000, zR 0, zR 73, zR 121, zI i, .null, zI z]) 5 rfl ?_
    refine zB_drop (lo1 := [zR 4000, zR 0, zR 73, zR 121, zI i, .null, .null]) 6 rfl ?_
    exact kk t2 dr2 tx2 w4 hsim
  · have h21 := h121 q
    rw [if_neg (by decide)] at h21
    refine zB_aload_n dL_law_1256 rfl ?_
    refine zB_iconst dL_law_1257 ?_
    refine zB_laload dL_law_1258 c121 (by decide) (by decide) (by decide) ?_
    refine zB_iload dL_law_1259 rfl ?_
    rw [h21]
    have hzl : -9223372036854775808 ≤ z ∧ z < 9223372036854775808 := by have h1 := hzr.1; have h2 := hzr.2; omega
    refine zB_i2l dL_law_1261 hzr ?_
    refine zB_lcmp dL_law_1262 hzl hzl ?_
    refine zB_valI 0 (by simp) ?_
    refine zB_if_eq (tgt := 1268) dL_law_1263 (by decide) ⟨by decide, by decide⟩ (fun _ => ?_) (fun q => absurd rfl q)
    refine zB_goto (tgt := 3195) dL_law_1268 (by decide) ?_
    refine zB_drop (lo1 := [zR 4000, zR 0, zR 73, zR 121, zI i, .null, zI z]) 5 rfl ?_
    refine zB_drop (lo1 := [zR 4000, zR 0, zR 73, zR 121, zI i, .null, .null]) 6 rfl ?_
    exact kk t2 dr2 tx2 w4 hsim
