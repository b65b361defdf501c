/-! a throw that is caught; the law's wrappers -/
theorem zLk_fg {ad : Nat → Nat} {ls' : Array Slot} {nL i : Nat} {lo : List Value} {v : Value} (h : lv_has ls' nL ((i, v) :: (zll ad lo).filter (fun q => !(q.1 == i) && !(q.1 + 1 == i && q.2.category == 2)))) (hno : znol lo i = true) : zLk ad ls' nL (lo.set i .null) := by
  refine ⟨lv_sub h [] rfl, fun k u hk hn => ?_⟩
  by_cases hki : k = i
  · subst hki
    have hl : k < lo.length := by
      have := (List.getElem?_eq_some_iff.mp hk).1
      simpa using this
    rw [List.getElem?_set_self hl] at hk
    cases hk
    cases hn
  · rw [List.getElem?_set_ne (Ne.symm hki)] at hk
    refine h.2.2 (k, zcv ad u) (List.mem_cons_of_mem _ (List.mem_filter.mpr ⟨zll_mem hk hn, ?_⟩))
    have h1 : (k == i) = false := by simp [hki]
    simp only [h1, Bool.not_false, Bool.true_and, zcv_cat]
    by_cases h2 : k + 1 = i
    · subst h2
      simp only [znol, hk] at hno
      cases u <;> simp_all [Value.category]
    · simp [h2]
theorem zlk_IAE : Cond.classLink RL 13 "java/lang/IllegalArgumentException" ∈ zTB := zin 801 (by decide +kernel) rfl
theorem zlk_NSE : Cond.classLink RL 18 "java/util/NoSuchElementException" ∈ zTB := zin 1045 (by decide +kernel) rfl
section ZH
variable {l : Launch} {M : zM} {gr : Bool} {d bc bs : Nat} {Q : Option Value → zS → zW → Prop} {X : String → zS → zW → Prop} {pc : Nat} {lo st : List Value} {S : zS} {w : zW}
/-- behind a throw of E at pc -/
def zHn (l : Launch) (M : zM) (gr : Bool) (d bc bs : Nat) (Q : Option Value → zS → zW → Prop) (X : String → zS → zW → Prop) (pc : Nat) (lo : List Value) (E : String) (S : zS) (w : zW) : Prop :=
  ∀ (p : Program) (e : Env) (R : Room) (s : State) (m : MethodId) (args : Array Value) (below : List Frame) (meth : Method) (c : Code) (Z : State → Prop) (G : zG) (ad : Nat → Nat) (A : Nat → Prop), zCx l M gr d Q X p e R s m args below meth c Z G ad A →
  ∀ (H : Heap) (locs : List Loc) (ls : Array Slot) (cells slots : Nat) (rest : List Value) (q : Addr) (ce : Cell), zRp G ad gr S w A s H → va_S A s.heap H locs → zLk ad ls M.2.2.1 lo → cells + bc ≤ R.cells → slots + bs ≤ R.slots → H[q]? = some ce → ce.vm = .none → s.vm.findClass E = some ce.cls → vx_W p l e R s m args below meth c H locs cells slots Z (F0 m pc ls rest) q
theorem zHn_1 {E : String} {a b hp ct k : Nat} {tl : List (Nat × Nat × Nat × Nat)} {lo1 : List Value} (ht : M.2.2.2.2 = (a, b, hp, ct) :: tl) (hx : covers ⟨a, b, hp, ct⟩ pc = true) (h0 : ct ≠ 0) (hl : Cond.classLink M.1.cls ct E ∈ zTB) (hca : (E, E) ∈ zcas) (hd : decode M.2.1 hp = .ok (.astore k, 2)) (hk : k < M.2.2.1) (hno : znol lo k = true) (hlo : lo.set k .null = lo1) (kk : zA l M gr d bc bs Q X (hp + 2) lo1 [] S w) : zHn l M gr d bc bs Q X pc lo E S w := by
  intro p e R s m args below meth c Z G ad A hC H locs ls cells slots rest q ce hR hS hL hc hs hce hcv hcl
  obtain ⟨h1, h2, h3, h4, h5, h6, h7, h8, h9, h10, h11, h12, h13, h14⟩ := id hC
  have hcast : (Cond.castable E E).before args s = true := va_Nw.use rfl (h9.2.2.2.2.2.2.2.2.2.2.1 _ hca)
  refine vx_catch h4 [] ⟨a, b, hp, ct⟩ (tableOf tl) (by rw [h10, ht]; rfl) (fun z hz => absurd hz List.not_mem_nil) hx h0 (h5 _ hl) hcast hce hcv hcl ?_
  subst hlo
  exact lv_astore h1 h2 hd (zll_has hL) hk rfl (fun ls' hL' => kk p e R s m args below meth c Z G ad A hC H locs ls' cells slots hR hS (zLk_fg hL' hno) hc hs)
theorem zHn_1n {E : String} {a b hp ct : Nat} {k : Fin 4} {tl : List (Nat × Nat × Nat × Nat)} {lo1 : List Value} (ht : M.2.2.2.2 = (a, b, hp, ct) :: tl) (hx : covers ⟨a, b, hp, ct⟩ pc = true) (h0 : ct ≠ 0) (hl : Cond.classLink M.1.cls ct E ∈ zTB) (hca : (E, E) ∈ zcas) (hd : decode M.2.1 hp = .ok (.astore_n k, 1)) (hk : (k : Nat) < M.2.2.1) (hno : znol lo (k : Nat) = true) (hlo : lo.set (k : Nat) .null = lo1) (kk : zA l M gr d bc bs Q X (hp + 1) lo1 [] S w) : zHn l M gr d bc bs Q X pc lo E S w := by
  intro p e R s m args below meth c Z G ad A hC H locs ls cells slots rest q ce hR hS hL hc hs hce hcv hcl
  obtain ⟨h1, h2, h3, h4, h5, h6, h7, h8, h9, h10, h11, h12, h13, h14⟩ := id hC
  have hcast : (Cond.castable E E).before args s = true := va_Nw.use rfl (h9.2.2.2.2.2.2.2.2.2.2.1 _ hca)
  refine vx_catch h4 [] ⟨a, b, hp, ct⟩ (tableOf tl) (by rw [h10, ht]; rfl) (fun z hz => absurd hz List.not_mem_nil) hx h0 (h5 _ hl) hcast hce hcv hcl ?_
  subst hlo
  exact lv_astore_n h1 h2 hd rfl (zll_has hL) hk rfl (fun ls' hL' => kk p e R s m args below meth c Z G ad A hC H locs ls' cells slots hR hS (zLk_fg hL' hno) hc hs)
theorem zHn_2 {a b hp ct a1 b1 hp1 ct1 k : Nat} {tl : List (Nat × Nat × Nat × Nat)} {lo1 : List Value} (ht : M.2.2.2.2 = (a1, b1, hp1, ct1) :: (a, b, hp, ct) :: tl) (h01 : ct1 ≠ 0) (hl1 : Cond.classLink M.1.cls ct1 zNSE ∈ zTB) (hx : covers ⟨a, b, hp, ct⟩ pc = true) (h0 : ct ≠ 0) (hl : Cond.classLink M.1.cls ct zIAE ∈ zTB) (hd : decode M.2.1 hp = .ok (.astore k, 2)) (hk : k < M.2.2.1) (hno : znol lo k = true) (hlo : lo.set k .null = lo1) (kk : zA l M gr d bc bs Q X (hp + 2) lo1 [] S w) : zHn l M gr d bc bs Q X pc lo zIAE S w := by
  intro p e R s m args below meth c Z G ad A hC H locs ls cells slots rest q ce hR hS hL hc hs hce hcv hcl
  obtain ⟨h1, h2, h3, h4, h5, h6, h7, h8, h9, h10, h11, h12, h13, h14⟩ := id hC
  have hcast : (Cond.castable zIAE zIAE).before args s = true := va_Nw.use rfl (h9.2.2.2.2.2.2.2.2.2.2.1 (zIAE, zIAE) List.mem_cons_self)
  refine vx_catch h4 [⟨a1, b1, hp1, ct1⟩] ⟨a, b, hp, ct⟩ (tableOf tl) (by rw [h10, ht]; rfl) (fun z hz => ?_) hx h0 (h5 _ hl) hcast hce hcv hcl ?_
  · obtain rfl := List.mem_singleton.mp hz
    exact Or.inr ⟨h01, zNSE, h5 _ hl1, h9.2.2.2.2.2.2.2.2.2.2.2.2⟩
  subst hlo
  exact lv_astore h1 h2 hd (zll_has hL) hk rfl (fun ls' hL' => kk p e R s m args below meth c Z G ad A hC H locs ls' cells slots hR hS (zLk_fg hL' hno) hc hs)
theorem zHn_2n {a b hp ct a1 b1 hp1 ct1 : Nat} {k : Fin 4} {tl : List (Nat × Nat × Nat × Nat)} {lo1 : List Value} (ht : M.2.2.2.2 = (a1, b1, hp1, ct1) :: (a, b, hp, ct) :: tl) (h01 : ct1 ≠ 0) (hl1 : Cond.classLink M.1.cls ct1 zNSE ∈ zTB) (hx : covers ⟨a, b, hp, ct⟩ pc = true) (h0 : ct ≠ 0) (hl : Cond.classLink M.1.cls ct zIAE ∈ zTB) (hd : decode M.2.1 hp = .ok (.astore_n k, 1)) (hk : (k : Nat) < M.2.2.1) (hno : znol lo (k : Nat) = true) (hlo : lo.set (k : Nat) .null = lo1) (kk : zA l M gr d bc bs Q X (hp + 1) lo1 [] S w) : zHn l M gr d bc bs Q X pc lo zIAE S w := by
  intro p e R s m args below meth c Z G ad A hC H locs ls cells slots rest q ce hR hS hL hc hs hce hcv hcl
  obtain ⟨h1, h2, h3, h4, h5, h6, h7, h8, h9, h10, h11, h12, h13, h14⟩ := id hC
  have hcast : (Cond.castable zIAE zIAE).before args s = true := va_Nw.use rfl (h9.2.2.2.2.2.2.2.2.2.2.1 (zIAE, zIAE) List.mem_cons_self)
  refine vx_catch h4 [⟨a1, b1, hp1, ct1⟩] ⟨a, b, hp, ct⟩ (tableOf tl) (by rw [h10, ht]; rfl) (fun z hz => ?_) hx h0 (h5 _ hl) hcast hce hcv hcl ?_
  · obtain rfl := List.mem_singleton.mp hz
    exact Or.inr ⟨h01, zNSE, h5 _ hl1, h9.2.2.2.2.2.2.2.2.2.2.2.2⟩
  subst hlo
  exact lv_astore_n h1 h2 hd rfl (zll_has hL) hk rfl (fun ls' hL' => kk p e R s m args below meth c Z G ad A hC H locs ls' cells slots hR hS (zLk_fg hL' hno) hc hs)
/-- a call that may throw, here caught -/
theorem zA_callVX {M' : zM} {idx d' bc' bs' bc2 bs2 n o ci N : Nat} {C : String} {T : u_T} {fs : List Nat} {As stk : List Value} {Q' : Option Value → zS → zW → Prop} {X' : String → zS → zW → Prop}
    (hd : decode M.2.1 pc = .ok (.invokevirtual idx, 3)) (hm : zMV M' C n) (hlk : zLk1 M.1.cls idx M') (hsp : zSp l M' gr d' bc' bs' (zR o :: As) S w Q' X') (hdd : d' < d) (hst : stk = As.reverse ++ zR o :: st) (hn : As.length = n) (hcat : (st.map fun v => v.category).sum ≤ 8)
    (ho : S[o]? = some (.inr (ci, fs))) (hcl : vwCl[ci]? = some (C, T, N)) (hb : bc = bc' + bc2 ∧ bs = bs' + bs2)
    (kk : ∀ v S' w', Q' v S' w' → zA l M gr d bc2 bs2 Q X (pc + 3) lo (v.toList ++ st) S' w') (kx : ∀ E S' w', X' E S' w' → zHn l M gr d bc2 bs2 Q X pc lo E S' w') : zA l M gr d bc bs Q X pc lo stk S w := by
  intro p e R s m args below meth c Z G ad A hC H locs ls cells slots hR hS hL hc hs
  subst hst
  obtain ⟨h1, h2, h3, h4, h5, h6, ⟨n0, h7⟩, h8, h9, h10, h11, h12, h13, h14⟩ := id hC
  have hG := zgoodV hm hlk
  obtain ⟨-, g0, g2, g3⟩ := hm
  have hcd : zcode M' = Cond.code M'.1 M'.2.1 M'.2.2.1 M'.2.2.2.1 := by unfold zcode; rw [g0]
  have hsz : ls.size = M.2.2.1 := hL.1.1
  obtain ⟨hbc, hbs⟩ := hb
  have hrun := vx_runV (As := As.map (zcv ad)) (rest := st.map (zcv ad)) (b := ad o) (g := F0 m pc ls ((As.reverse ++ zR o :: st).map (zcv ad))) (H := H) (locs := locs) (cells := cells) (slots := slots) (R := R) (meth := meth) (below := below) (e := e) ⟨h1, h2, h3, h4, h5⟩ (hsp h6 G ad H.size)
    (cwV n h5 hG (by rw [hcd]) rfl rfl g3 ⟨by show d' + 6 + 1 ≤ R.frames; omega, by show 8 + (M'.2.2.1 + 11) + (60 * d' + 100) ≤ R.locals; omega⟩)
    ⟨zPre_blind _ _ _ _ _ _ _, va_recv hR.2.1 hR.1 hcl (zcs_get ho), fun U hU hW => ⟨rfl, zPre_of h7 hR hS h9 hU hW⟩⟩ rfl (by rw [List.length_map]; exact hn) hsz (by simp [zcv]) (by show 2 * 0 + _ ≤ 8; rw [zcv_sum]; omega) hd ⟨by show cells + bc' ≤ R.cells; omega, by show slots + bs' ≤ R.slots; omega⟩
  refine zbehind (w := w) hrun h7 hR hS (fun v S' w' H1 locs1 hq hR1 hS1 => ?_) (fun E S' w' H1 locs1 q ce hx hR1 hS1 hce hcv hcle => ?_)
  · have := kk v S' w' hq p e R s m args below meth c Z G ad A hC H1 locs1 ls (cells + bc') (slots + bs') hR1 hS1 hL (by omega) (by omega)
    rw [List.map_append] at this
    exact this
  · exact kx E S' w' hx p e R s m args below meth c Z G ad A hC H1 locs1 ls (cells + bc') (slots + bs') _ q ce hR1 hS1 hL (by omega) (by omega) hce hcv hcle
end ZH
theorem zI_in (z0 : Int) : ∃ z, zI z0 = zI z ∧ inR z := ⟨(Int32.ofInt z0).toInt, by show Value.int _ = Value.int _; rw [zof], inR_t _⟩
/-- what a wrapper hands to the law: its code, and what the reference says from there -/
def zWq (l : Launch) (n : Nat) (mr : zM) (bb : Bool) (as : List Value) : Option Value → zS → zW → Prop := fun v S w1 => ∃ k : Int, v = some (zI k) ∧ (0 ≤ k ∧ k ≤ 2) ∧ (∃ t1 dr1 tx1 : Nat, S = ZZ t1 dr1 tx1) ∧ ∃ (d2 : Nat) (Q2 : Option Value → zS → zW → Prop), d2 ≤ 15 ∧ zSp l mr false d2 0 0 (zR 73 :: as) S w1 Q2 zNo ∧
  ∀ (v2 : Option Value) (S2 : zS) (w3 : zW), Q2 v2 S2 w3 → ∃ z, v2 = some (zI z) ∧ inR z ∧ w3 73 1 = k ∧ (k = 0 → w3 121 0 = (if bb = true then (if z = 0 then 0 else 1) else z)) ∧ ∃ t2 dr2 tx2 : Nat, S2 = ZZ t2 dr2 tx2 ∧ zSim (n + 1) t2 dr2 tx2 w3
theorem zWq_r {l : Launch} {n : Nat} {mr : zM} {bb : Bool} {as : List Value} {t1 dr1 tx1 d2 : Nat} {w2 : zW} {z z0 y : Int} {Q2 : Option Value → zS → zW → Prop} (hz : zI z0 = zI z) (hr : inR z) (hy : y = (if bb = true then (if z = 0 then 0 else 1) else z)) (hw : w2 121 0 = y) (hd : d2 ≤ 15) (hsp : zSp l mr false d2 0 0 (zR 73 :: as) (ZZ t1 dr1 tx1) w2 Q2 zNo)
    (hk : ∀ (v2 : Option Value) (S2 : zS) (w3 : zW), Q2 v2 S2 w3 → v2 = some (zI z0) ∧ w3 73 1 = 0 ∧ w3 121 0 = w2 121 0 ∧ ∃ t2 dr2 tx2 : Nat, S2 = ZZ t2 dr2 tx2 ∧ zSim (n + 1) t2 dr2 tx2 w3) : zWq l n mr bb as (some (zI 0)) (ZZ t1 dr1 tx1) w2 :=
  ⟨0, rfl, by decide, ⟨_, _, _, rfl⟩, d2, Q2, hd, hsp, fun v2 S2 w3 hq => by
    obtain ⟨h1, h2, h3, h4⟩ := hk v2 S2 w3 hq
    exact ⟨z, by rw [h1, hz], hr, h2, fun _ => by rw [h3, hw, hy], h4⟩⟩
theorem zWq_x {l : Launch} {n : Nat} {mr : zM} {bb : Bool} {as : List Value} {t1 dr1 tx1 d2 : Nat} {w1 : zW} {k : Int} {Q2 : Option Value → zS → zW → Prop} (k1 : 1 ≤ k) (k2 : k ≤ 2) (hd : d2 ≤ 15) (hsp : zSp l mr false d2 0 0 (zR 73 :: as) (ZZ t1 dr1 tx1) w1 Q2 zNo)
    (hk : ∀ (v2 : Option Value) (S2 : zS) (w3 : zW), Q2 v2 S2 w3 → (∃ z, v2 = some (zI z)) ∧ w3 73 1 = k ∧ ∃ t2 dr2 tx2 : Nat, S2 = ZZ t2 dr2 tx2 ∧ zSim (n + 1) t2 dr2 tx2 w3) : zWq l n mr bb as (some (zI k)) (ZZ t1 dr1 tx1) w1 :=
  ⟨k, rfl, ⟨by omega, k2⟩, ⟨_, _, _, rfl⟩, d2, Q2, hd, hsp, fun v2 S2 w3 hq => by
    obtain ⟨⟨z0, h1⟩, h2, h3⟩ := hk v2 S2 w3 hq
    obtain ⟨z, hz, hr⟩ := zI_in z0
    exact ⟨z, by rw [h1, hz], hr, h2, fun g => by omega, h3⟩⟩
set_option maxRecDepth 100000 in
set_option maxHeartbeats 4000000 in
theorem w_yard {l : Launch} {n t dr tx : Nat} {w : zW} {p0 : Int} (hp : zPr l n mX11_yard mX12_yard 0 1 false [zI p0] t dr tx w) : zSp l mL_yard false 15 3 18 [zR 0, zI p0, zR 121] (ZZ t dr tx) w (zWq l n mX12_yard false [zI p0]) zNo := by
  obtain ⟨d, bc, bs, Q, X, ⟨hd, hbc, hbs⟩, hs, hret, hthr⟩ := hp
  refine zA_intro ⟨plainFor_of_name (by decide +kernel), Or.inl (by decide +kernel)⟩ rfl (Nat.le_of_ble_eq_true rfl) ?_
  show zA l mL_yard false 15 3 18 (zWq l n mX12_yard false [zI p0]) zNo 0 [zR 0, zI p0, zR 121, .null] [] (ZZ t dr tx) w
  refine zA_aload_n dL_yard_0 rfl ?_
  refine zA_iconst dL_yard_1 ?_
  refine zA_aload_n dL_yard_2 rfl ?_
  refine zA_iload_n dL_yard_3 rfl ?_
  refine zA_callVX (st := [zI 0, zR 121]) (bc2 := 3 - bc) (bs2 := 18 - bs) dL_yard_4 vX11_yard kL_7 hs (by omega) rfl rfl (Nat.le_of_ble_eq_true rfl) c0 rfl ⟨by omega, by omega⟩ (fun v S1 w1 hq => ?_) (fun E S1 w1 hx => ?_)
  · have h1 := hret v S1 w1 hq
    obtain ⟨⟨t1, dr1, tx1, rfl⟩, hv, -⟩ := h1 w1 (fun _ _ _ => rfl)
    obtain ⟨z0, rfl⟩ : ∃ z, v = some (zI z) := hv
    obtain ⟨z, hz, hzr⟩ := zI_in z0
    show zA l mL_yard false 15 (3 - bc) (18 - bs) (zWq l n mX12_yard false [zI p0]) zNo 7 [zR 0, zI p0, zR 121, .null] [zI z0, zI 0, zR 121] (ZZ t1 dr1 tx1) w1
    rw [hz]
    refine zA_i2l dL_yard_7 hzr ?_
    refine zA_lastore dL_yard_8 rfl hzr c121 (by decide) (by decide) (by decide) ?_
    refine zA_goto (tgt := 15) dL_yard_9 (by decide) ?_
    refine zA_iconst dL_yard_15 ?_
    refine zA_iret dL_yard_16 rfl ?_
    obtain ⟨-, -, d2, Q2, hd2, hsp, hk⟩ := h1 (up w1 121 0 z) (fun c x hc => up_n (Or.inl hc))
    exact zWq_r hz hzr rfl (up_same _ _ _ _) hd2 hsp hk
  · obtain ⟨k, hk, ⟨t1, dr1, tx1, rfl⟩, d2, Q2, hd2, hsp, hkk⟩ := hthr E S1 w1 hx
    rcases hk with ⟨rfl, rfl, h0⟩ | ⟨rfl, rfl, h0⟩
    · exact absurd rfl h0
    · refine zHn_1n (tl := []) (lo1 := [zR 0, zI p0, zR 121, .null]) rfl (by decide) (by decide) zlk_IAE (List.mem_cons_self) dL_yard_12 (by decide) rfl rfl ?_
      refine zA_iconst dL_yard_13 ?_
      refine zA_iret dL_yard_14 rfl ?_
      exact zWq_x (by decide) (by decide) hd2 hsp hkk
set_option maxRecDepth 100000 in
set_option maxHeartbeats 4000000 in
theorem w_count {l : Launch} {n t dr tx : Nat} {w : zW} {p0 : Int} (hp : zPr l n mX11_count mX12_count 1 0 false [zI p0] t dr tx w) : zSp l mL_count false 15 3 18 [zR 0, zI p0, zR 121] (ZZ t dr tx) w (zWq l n mX12_count false [zI p0]) zNo := by
  obtain ⟨d, bc, bs, Q, X, ⟨hd, hbc, hbs⟩, hs, hret, hthr⟩ := hp
  refine zA_intro ⟨plainFor_of_name (by decide +kernel), Or.inl (by decide +kernel)⟩ rfl (Nat.le_of_ble_eq_true rfl) ?_
  show zA l mL_count false 15 3 18 (zWq l n mX12_count false [zI p0]) zNo 0 [zR 0, zI p0, zR 121, .null] [] (ZZ t dr tx) w
  refine zA_aload_n dL_count_0 rfl ?_
  refine zA_iconst dL_count_1 ?_
  refine zA_aload_n dL_count_2 rfl ?_
  refine zA_iload_n dL_count_3 rfl ?_
  refine zA_callVX (st := [zI 0, zR 121]) (bc2 := 3 - bc) (bs2 := 18 - bs) dL_count_4 vX11_count kL_15 hs (by omega) rfl rfl (Nat.le_of_ble_eq_true rfl) c0 rfl ⟨by omega, by omega⟩ (fun v S1 w1 hq => ?_) (fun E S1 w1 hx => ?_)
  · have h1 := hret v S1 w1 hq
    obtain ⟨⟨t1, dr1, tx1, rfl⟩, hv, -⟩ := h1 w1 (fun _ _ _ => rfl)
    obtain ⟨z0, rfl⟩ : ∃ z, v = some (zI z) := hv
    obtain ⟨z, hz, hzr⟩ := zI_in z0
    show zA l mL_count false 15 (3 - bc) (18 - bs) (zWq l n mX12_count false [zI p0]) zNo 7 [zR 0, zI p0, zR 121, .null] [zI z0, zI 0, zR 121] (ZZ t1 dr1 tx1) w1
    rw [hz]
    refine zA_i2l dL_count_7 hzr ?_
    refine zA_lastore dL_count_8 rfl hzr c121 (by decide) (by decide) (by decide) ?_
    refine zA_goto (tgt := 15) dL_count_9 (by decide) ?_
    refine zA_iconst dL_count_15 ?_
    refine zA_iret dL_count_16 rfl ?_
    obtain ⟨-, -, d2, Q2, hd2, hsp, hk⟩ := h1 (up w1 121 0 z) (fun c x hc => up_n (Or.inl hc))
    exact zWq_r hz hzr rfl (up_same _ _ _ _) hd2 hsp hk
  · obtain ⟨k, hk, ⟨t1, dr1, tx1, rfl⟩, d2, Q2, hd2, hsp, hkk⟩ := hthr E S1 w1 hx
    rcases hk with ⟨rfl, rfl, h0⟩ | ⟨rfl, rfl, h0⟩
    · refine zHn_1n (tl := []) (lo1 := [zR 0, zI p0, zR 121, .null]) rfl (by decide) (by decide) zlk_NSE (List.mem_cons_of_mem _ List.mem_cons_self) dL_count_12 (by decide) rfl rfl ?_
      refine zA_iconst dL_count_13 ?_
      refine zA_iret dL_count_14 rfl ?_
      exact zWq_x (by decide) (by decide) hd2 hsp hkk
    · exact absurd rfl h0
set_option maxRecDepth 100000 in
set_option maxHeartbeats 4000000 in
theorem w_letter {l : Launch} {n t dr tx : Nat} {w : zW} {p0 p1 : Int} (hp : zPr l n mX11_letter mX12_letter 1 0 false [zI p0, zI p1] t dr tx w) : zSp l mL_letter false 15 3 18 [zR 0, zI p0, zI p1, zR 121] (ZZ t dr tx) w (zWq l n mX12_letter false [zI p0, zI p1]) zNo := by
  obtain ⟨d, bc, bs, Q, X, ⟨hd, hbc, hbs⟩, hs, hret, hthr⟩ := hp
  refine zA_intro ⟨plainFor_of_name (by decide +kernel), Or.inl (by decide +kernel)⟩ rfl (Nat.le_of_ble_eq_true rfl) ?_
  show zA l mL_letter false 15 3 18 (zWq l n mX12_letter false [zI p0, zI p1]) zNo 0 [zR 0, zI p0, zI p1, zR 121, .null] [] (ZZ t dr tx) w
  refine zA_aload_n dL_letter_0 rfl ?_
  refine zA_iconst dL_letter_1 ?_
  refine zA_aload_n dL_letter_2 rfl ?_
  refine zA_iload_n dL_letter_3 rfl ?_
  refine zA_iload_n dL_letter_4 rfl ?_
  refine zA_callVX (st := [zI 0, zR 121]) (bc2 := 3 - bc) (bs2 := 18 - bs) dL_letter_5 vX11_letter kL_20 hs (by omega) rfl rfl (Nat.le_of_ble_eq_true rfl) c0 rfl ⟨by omega, by omega⟩ (fun v S1 w1 hq => ?_) (fun E S1 w1 hx => ?_)
  · have h1 := hret v S1 w1 hq
    obtain ⟨⟨t1, dr1, tx1, rfl⟩, hv, -⟩ := h1 w1 (fun _ _ _ => rfl)
    obtain ⟨z0, rfl⟩ : ∃ z, v = some (zI z) := hv
    obtain ⟨z, hz, hzr⟩ := zI_in z0
    show zA l mL_letter false 15 (3 - bc) (18 - bs) (zWq l n mX12_letter false [zI p0, zI p1]) zNo 8 [zR 0, zI p0, zI p1, zR 121, .null] [zI z0, zI 0, zR 121] (ZZ t1 dr1 tx1) w1
    rw [hz]
    refine zA_i2l dL_letter_8 hzr ?_
    refine zA_lastore dL_letter_9 rfl hzr c121 (by decide) (by decide) (by decide) ?_
    refine zA_goto (tgt := 17) dL_letter_10 (by decide) ?_
    refine zA_iconst dL_letter_17 ?_
    refine zA_iret dL_letter_18 rfl ?_
    obtain ⟨-, -, d2, Q2, hd2, hsp, hk⟩ := h1 (up w1 121 0 z) (fun c x hc => up_n (Or.inl hc))
    exact zWq_r hz hzr rfl (up_same _ _ _ _) hd2 hsp hk
  · obtain ⟨k, hk, ⟨t1, dr1, tx1, rfl⟩, d2, Q2, hd2, hsp, hkk⟩ := hthr E S1 w1 hx
    rcases hk with ⟨rfl, rfl, h0⟩ | ⟨rfl, rfl, h0⟩
    · refine zHn_1 (tl := []) (lo1 := [zR 0, zI p0, zI p1, zR 121, .null]) rfl (by decide) (by decide) zlk_NSE (List.mem_cons_of_mem _ List.mem_cons_self) dL_letter_13 (by decide) rfl rfl ?_
      refine zA_iconst dL_letter_15 ?_
      refine zA_iret dL_letter_16 rfl ?_
      exact zWq_x (by decide) (by decide) hd2 hsp hkk
    · exact absurd rfl h0
set_option maxRecDepth 100000 in
set_option maxHeartbeats 4000000 in
theorem w_road {l : Launch} {n t dr tx : Nat} {w : zW} {p0 p1 : Int} (hp : zPr l n mX11_road mX12_road 1 0 false [zI p0, zI p1] t dr tx w) : zSp l mL_road false 15 3 18 [zR 0, zI p0, zI p1, zR 121] (ZZ t dr tx) w (zWq l n mX12_road false [zI p0, zI p1]) zNo := by
  obtain ⟨d, bc, bs, Q, X, ⟨hd, hbc, hbs⟩, hs, hret, hthr⟩ := hp
  refine zA_intro ⟨plainFor_of_name (by decide +kernel), Or.inl (by decide +kernel)⟩ rfl (Nat.le_of_ble_eq_true rfl) ?_
  show zA l mL_road false 15 3 18 (zWq l n mX12_road false [zI p0, zI p1]) zNo 0 [zR 0, zI p0, zI p1, zR 121, .null] [] (ZZ t dr tx) w
  refine zA_aload_n dL_road_0 rfl ?_
  refine zA_iconst dL_road_1 ?_
  refine zA_aload_n dL_road_2 rfl ?_
  refine zA_iload_n dL_road_3 rfl ?_
  refine zA_iload_n dL_road_4 rfl ?_
  refine zA_callVX (st := [zI 0, zR 121]) (bc2 := 3 - bc) (bs2 := 18 - bs) dL_road_5 vX11_road kL_24 hs (by omega) rfl rfl (Nat.le_of_ble_eq_true rfl) c0 rfl ⟨by omega, by omega⟩ (fun v S1 w1 hq => ?_) (fun E S1 w1 hx => ?_)
  · have h1 := hret v S1 w1 hq
    obtain ⟨⟨t1, dr1, tx1, rfl⟩, hv, -⟩ := h1 w1 (fun _ _ _ => rfl)
    obtain ⟨z0, rfl⟩ : ∃ z, v = some (zI z) := hv
    obtain ⟨z, hz, hzr⟩ := zI_in z0
    show zA l mL_road false 15 (3 - bc) (18 - bs) (zWq l n mX12_road false [zI p0, zI p1]) zNo 8 [zR 0, zI p0, zI p1, zR 121, .null] [zI z0, zI 0, zR 121] (ZZ t1 dr1 tx1) w1
    rw [hz]
    refine zA_i2l dL_road_8 hzr ?_
    refine zA_lastore dL_road_9 rfl hzr c121 (by decide) (by decide) (by decide) ?_
    refine zA_goto (tgt := 17) dL_road_10 (by decide) ?_
    refine zA_iconst dL_road_17 ?_
    refine zA_iret dL_road_18 rfl ?_
    obtain ⟨-, -, d2, Q2, hd2, hsp, hk⟩ := h1 (up w1 121 0 z) (fun c x hc => up_n (Or.inl hc))
    exact zWq_r hz hzr rfl (up_same _ _ _ _) hd2 hsp hk
  · obtain ⟨k, hk, ⟨t1, dr1, tx1, rfl⟩, d2, Q2, hd2, hsp, hkk⟩ := hthr E S1 w1 hx
    rcases hk with ⟨rfl, rfl, h0⟩ | ⟨rfl, rfl, h0⟩
    · refine zHn_1 (tl := []) (lo1 := [zR 0, zI p0, zI p1, zR 121, .null]) rfl (by decide) (by decide) zlk_NSE (List.mem_cons_of_mem _ List.mem_cons_self) dL_road_13 (by decide) rfl rfl ?_
      refine zA_iconst dL_road_15 ?_
      refine zA_iret dL_road_16 rfl ?_
      exact zWq_x (by decide) (by decide) hd2 hsp hkk
    · exact absurd rfl h0
set_option maxRecDepth 100000 in
set_option maxHeartbeats 4000000 in
theorem w_begins {l : Launch} {n t dr tx : Nat} {w : zW} {p0 p1 : Int} (hp : zPr l n mX11_begins mX12_begins 1 2 false [zI p0, zI p1] t dr tx w) : zSp l mL_begins false 15 3 18 [zR 0, zI p0, zI p1, zR 121] (ZZ t dr tx) w (zWq l n mX12_begins false [zI p0, zI p1]) zNo := by
  obtain ⟨d, bc, bs, Q, X, ⟨hd, hbc, hbs⟩, hs, hret, hthr⟩ := hp
  refine zA_intro ⟨plainFor_of_name (by decide +kernel), Or.inl (by decide +kernel)⟩ rfl (Nat.le_of_ble_eq_true rfl) ?_
  show zA l mL_begins false 15 3 18 (zWq l n mX12_begins false [zI p0, zI p1]) zNo 0 [zR 0, zI p0, zI p1, zR 121, .null] [] (ZZ t dr tx) w
  refine zA_aload_n dL_begins_0 rfl ?_
  refine zA_iconst dL_begins_1 ?_
  refine zA_aload_n dL_begins_2 rfl ?_
  refine zA_iload_n dL_begins_3 rfl ?_
  refine zA_iload_n dL_begins_4 rfl ?_
  refine zA_callVX (st := [zI 0, zR 121]) (bc2 := 3 - bc) (bs2 := 18 - bs) dL_begins_5 vX11_begins kL_27 hs (by omega) rfl rfl (Nat.le_of_ble_eq_true rfl) c0 rfl ⟨by omega, by omega⟩ (fun v S1 w1 hq => ?_) (fun E S1 w1 hx => ?_)
  · have h1 := hret v S1 w1 hq
    obtain ⟨⟨t1, dr1, tx1, rfl⟩, hv, -⟩ := h1 w1 (fun _ _ _ => rfl)
    obtain ⟨z0, rfl⟩ : ∃ z, v = some (zI z) := hv
    obtain ⟨z, hz, hzr⟩ := zI_in z0
    show zA l mL_begins false 15 (3 - bc) (18 - bs) (zWq l n mX12_begins false [zI p0, zI p1]) zNo 8 [zR 0, zI p0, zI p1, zR 121, .null] [zI z0, zI 0, zR 121] (ZZ t1 dr1 tx1) w1
    rw [hz]
    refine zA_i2l dL_begins_8 hzr ?_
    refine zA_lastore dL_begins_9 rfl hzr c121 (by decide) (by decide) (by decide) ?_
    refine zA_goto (tgt := 21) dL_begins_10 (by decide) ?_
    refine zA_iconst dL_begins_21 ?_
    refine zA_iret dL_begins_22 rfl ?_
    obtain ⟨-, -, d2, Q2, hd2, hsp, hk⟩ := h1 (up w1 121 0 z) (fun c x hc => up_n (Or.inl hc))
    exact zWq_r hz hzr rfl (up_same _ _ _ _) hd2 hsp hk
  · obtain ⟨k, hk, ⟨t1, dr1, tx1, rfl⟩, d2, Q2, hd2, hsp, hkk⟩ := hthr E S1 w1 hx
    rcases hk with ⟨rfl, rfl, h0⟩ | ⟨rfl, rfl, h0⟩
    · refine zHn_1 (tl := [(0, 10, 17, 13)]) (lo1 := [zR 0, zI p0, zI p1, zR 121, .null]) rfl (by decide) (by decide) zlk_NSE (List.mem_cons_of_mem _ List.mem_cons_self) dL_begins_13 (by decide) rfl rfl ?_
      refine zA_iconst dL_begins_15 ?_
      refine zA_iret dL_begins_16 rfl ?_
      exact zWq_x (by decide) (by decide) hd2 hsp hkk
    · refine zHn_2 (tl := []) (lo1 := [zR 0, zI p0, zI p1, zR 121, .null]) rfl (by decide) zlk_NSE (by decide) (by decide) zlk_IAE dL_begins_17 (by decide) rfl rfl ?_
      refine zA_iconst dL_begins_19 ?_
      refine zA_iret dL_begins_20 rfl ?_
      exact zWq_x (by decide) (by decide) hd2 hsp hkk
set_option maxRecDepth 100000 in
set_option maxHeartbeats 4000000 in
theorem w_planned {l : Launch} {n t dr tx : Nat} {w : zW} {p0 p1 : Int} (hp : zPr l n mX11_planned mX12_planned 1 0 false [zI p0, zI p1] t dr tx w) : zSp l mL_planned false 15 3 18 [zR 0, zI p0, zI p1, zR 121] (ZZ t dr tx) w (zWq l n mX12_planned false [zI p0, zI p1]) zNo := by
  obtain ⟨d, bc, bs, Q, X, ⟨hd, hbc, hbs⟩, hs, hret, hthr⟩ := hp
  refine zA_intro ⟨plainFor_of_name (by decide +kernel), Or.inl (by decide +kernel)⟩ rfl (Nat.le_of_ble_eq_true rfl) ?_
  show zA l mL_planned false 15 3 18 (zWq l n mX12_planned false [zI p0, zI p1]) zNo 0 [zR 0, zI p0, zI p1, zR 121, .null] [] (ZZ t dr tx) w
  refine zA_aload_n dL_planned_0 rfl ?_
  refine zA_iconst dL_planned_1 ?_
  refine zA_aload_n dL_planned_2 rfl ?_
  refine zA_iload_n dL_planned_3 rfl ?_
  refine zA_iload_n dL_planned_4 rfl ?_
  refine zA_callVX (st := [zI 0, zR 121]) (bc2 := 3 - bc) (bs2 := 18 - bs) dL_planned_5 vX11_planned kL_30 hs (by omega) rfl rfl (Nat.le_of_ble_eq_true rfl) c0 rfl ⟨by omega, by omega⟩ (fun v S1 w1 hq => ?_) (fun E S1 w1 hx => ?_)
  · have h1 := hret v S1 w1 hq
    obtain ⟨⟨t1, dr1, tx1, rfl⟩, hv, -⟩ := h1 w1 (fun _ _ _ => rfl)
    obtain ⟨z0, rfl⟩ : ∃ z, v = some (zI z) := hv
    obtain ⟨z, hz, hzr⟩ := zI_in z0
    show zA l mL_planned false 15 (3 - bc) (18 - bs) (zWq l n mX12_planned false [zI p0, zI p1]) zNo 8 [zR 0, zI p0, zI p1, zR 121, .null] [zI z0, zI 0, zR 121] (ZZ t1 dr1 tx1) w1
    rw [hz]
    refine zA_i2l dL_planned_8 hzr ?_
    refine zA_lastore dL_planned_9 rfl hzr c121 (by decide) (by decide) (by decide) ?_
    refine zA_goto (tgt := 17) dL_planned_10 (by decide) ?_
    refine zA_iconst dL_planned_17 ?_
    refine zA_iret dL_planned_18 rfl ?_
    obtain ⟨-, -, d2, Q2, hd2, hsp, hk⟩ := h1 (up w1 121 0 z) (fun c x hc => up_n (Or.inl hc))
    exact zWq_r hz hzr rfl (up_same _ _ _ _) hd2 hsp hk
  · obtain ⟨k, hk, ⟨t1, dr1, tx1, rfl⟩, d2, Q2, hd2, hsp, hkk⟩ := hthr E S1 w1 hx
    rcases hk with ⟨rfl, rfl, h0⟩ | ⟨rfl, rfl, h0⟩
    · refine zHn_1 (tl := []) (lo1 := [zR 0, zI p0, zI p1, zR 121, .null]) rfl (by decide) (by decide) zlk_NSE (List.mem_cons_of_mem _ List.mem_cons_self) dL_planned_13 (by decide) rfl rfl ?_
      refine zA_iconst dL_planned_15 ?_
      refine zA_iret dL_planned_16 rfl ?_
      exact zWq_x (by decide) (by decide) hd2 hsp hkk
    · exact absurd rfl h0
set_option maxRecDepth 100000 in
set_option maxHeartbeats 4000000 in
theorem w_plumb {l : Launch} {n t dr tx : Nat} {w : zW} {p0 p1 p2 : Int} (hp : zPr l n mX11_plumb mX12_plumb 1 0 false [zI p0, zI p1, zI p2] t dr tx w) : zSp l mL_plumb false 15 3 18 [zR 0, zI p0, zI p1, zI p2, zR 121] (ZZ t dr tx) w (zWq l n mX12_plumb true [zI p0, zI p1, zI p2]) zNo := by
  obtain ⟨d, bc, bs, Q, X, ⟨hd, hbc, hbs⟩, hs, hret, hthr⟩ := hp
  refine zA_intro ⟨plainFor_of_name (by decide +kernel), Or.inl (by decide +kernel)⟩ rfl (Nat.le_of_ble_eq_true rfl) ?_
  show zA l mL_plumb false 15 3 18 (zWq l n mX12_plumb true [zI p0, zI p1, zI p2]) zNo 0 [zR 0, zI p0, zI p1, zI p2, zR 121, .null] [] (ZZ t dr tx) w
  refine zA_aload dL_plumb_0 rfl ?_
  refine zA_iconst dL_plumb_2 ?_
  refine zA_aload_n dL_plumb_3 rfl ?_
  refine zA_iload_n dL_plumb_4 rfl ?_
  refine zA_iload_n dL_plumb_5 rfl ?_
  refine zA_iload_n dL_plumb_6 rfl ?_
  refine zA_callVX (st := [zI 0, zR 121]) (bc2 := 3 - bc) (bs2 := 18 - bs) dL_plumb_7 vX11_plumb kL_33 hs (by omega) rfl rfl (Nat.le_of_ble_eq_true rfl) c0 rfl ⟨by omega, by omega⟩ (fun v S1 w1 hq => ?_) (fun E S1 w1 hx => ?_)
  · have h1 := hret v S1 w1 hq
    obtain ⟨⟨t1, dr1, tx1, rfl⟩, hv, -⟩ := h1 w1 (fun _ _ _ => rfl)
    obtain ⟨z0, rfl⟩ : ∃ z, v = some (zI z) := hv
    obtain ⟨z, hz, hzr⟩ := zI_in z0
    show zA l mL_plumb false 15 (3 - bc) (18 - bs) (zWq l n mX12_plumb true [zI p0, zI p1, zI p2]) zNo 10 [zR 0, zI p0, zI p1, zI p2, zR 121, .null] [zI z0, zI 0, zR 121] (ZZ t1 dr1 tx1) w1
    rw [hz]
    refine zA_if_eq (tgt := 17) dL_plumb_10 (by decide) hzr (fun hz0 => ?_) (fun hz0 => ?_)
    · refine zA_lconst dL_plumb_17 ?_
      refine zA_lastore dL_plumb_18 rfl ⟨by decide, by decide⟩ c121 (by decide) (by decide) (by decide) ?_
      refine zA_goto (tgt := 26) dL_plumb_19 (by decide) ?_
      refine zA_iconst dL_plumb_26 ?_
      refine zA_iret dL_plumb_27 rfl ?_
      obtain ⟨-, -, d2, Q2, hd2, hsp, hk⟩ := h1 (up w1 121 0 0) (fun c x hc => up_n (Or.inl hc))
      exact zWq_r hz hzr (by rw [if_pos rfl, if_pos hz0]; rfl) (up_same _ _ _ _) hd2 hsp hk
    · refine zA_lconst dL_plumb_13 ?_
      refine zA_goto (tgt := 18) dL_plumb_14 (by decide) ?_
      refine zA_lastore dL_plumb_18 rfl ⟨by decide, by decide⟩ c121 (by decide) (by decide) (by decide) ?_
      refine zA_goto (tgt := 26) dL_plumb_19 (by decide) ?_
      refine zA_iconst dL_plumb_26 ?_
      refine zA_iret dL_plumb_27 rfl ?_
      obtain ⟨-, -, d2, Q2, hd2, hsp, hk⟩ := h1 (up w1 121 0 1) (fun c x hc => up_n (Or.inl hc))
      exact zWq_r hz hzr (by rw [if_pos rfl, if_neg hz0]; rfl) (up_same _ _ _ _) hd2 hsp hk
  · obtain ⟨k, hk, ⟨t1, dr1, tx1, rfl⟩, d2, Q2, hd2, hsp, hkk⟩ := hthr E S1 w1 hx
    rcases hk with ⟨rfl, rfl, h0⟩ | ⟨rfl, rfl, h0⟩
    · refine zHn_1 (tl := []) (lo1 := [zR 0, zI p0, zI p1, zI p2, zR 121, .null]) rfl (by decide) (by decide) zlk_NSE (List.mem_cons_of_mem _ List.mem_cons_self) dL_plumb_22 (by decide) rfl rfl ?_
      refine zA_iconst dL_plumb_24 ?_
      refine zA_iret dL_plumb_25 rfl ?_
      exact zWq_x (by decide) (by decide) hd2 hsp hkk
    · exact absurd rfl h0
set_option maxRecDepth 100000 in
set_option maxHeartbeats 4000000 in
theorem w_doubt {l : Launch} {n t dr tx : Nat} {w : zW} {p0 p1 : Int} (hp : zPr l n mX11_doubt mX12_doubt 1 0 false [zI p0, zI p1] t dr tx w) : zSp l mL_doubt false 15 3 18 [zR 0, zI p0, zI p1, zR 121] (ZZ t dr tx) w (zWq l n mX12_doubt true [zI p0, zI p1]) zNo := by
  obtain ⟨d, bc, bs, Q, X, ⟨hd, hbc, hbs⟩, hs, hret, hthr⟩ := hp
  refine zA_intro ⟨plainFor_of_name (by decide +kernel), Or.inl (by decide +kernel)⟩ rfl (Nat.le_of_ble_eq_true rfl) ?_
  show zA l mL_doubt false 15 3 18 (zWq l n mX12_doubt true [zI p0, zI p1]) zNo 0 [zR 0, zI p0, zI p1, zR 121, .null] [] (ZZ t dr tx) w
  refine zA_aload_n dL_doubt_0 rfl ?_
  refine zA_iconst dL_doubt_1 ?_
  refine zA_aload_n dL_doubt_2 rfl ?_
  refine zA_iload_n dL_doubt_3 rfl ?_
  refine zA_iload_n dL_doubt_4 rfl ?_
  refine zA_callVX (st := [zI 0, zR 121]) (bc2 := 3 - bc) (bs2 := 18 - bs) dL_doubt_5 vX11_doubt kL_37 hs (by omega) rfl rfl (Nat.le_of_ble_eq_true rfl) c0 rfl ⟨by omega, by omega⟩ (fun v S1 w1 hq => ?_) (fun E S1 w1 hx => ?_)
  · have h1 := hret v S1 w1 hq
    obtain ⟨⟨t1, dr1, tx1, rfl⟩, hv, -⟩ := h1 w1 (fun _ _ _ => rfl)
    obtain ⟨z0, rfl⟩ : ∃ z, v = some (zI z) := hv
    obtain ⟨z, hz, hzr⟩ := zI_in z0
    show zA l mL_doubt false 15 (3 - bc) (18 - bs) (zWq l n mX12_doubt true [zI p0, zI p1]) zNo 8 [zR 0, zI p0, zI p1, zR 121, .null] [zI z0, zI 0, zR 121] (ZZ t1 dr1 tx1) w1
    rw [hz]
    refine zA_if_eq (tgt := 15) dL_doubt_8 (by decide) hzr (fun hz0 => ?_) (fun hz0 => ?_)
    · refine zA_lconst dL_doubt_15 ?_
      refine zA_lastore dL_doubt_16 rfl ⟨by decide, by decide⟩ c121 (by decide) (by decide) (by decide) ?_
      refine zA_goto (tgt := 24) dL_doubt_17 (by decide) ?_
      refine zA_iconst dL_doubt_24 ?_
      refine zA_iret dL_doubt_25 rfl ?_
      obtain ⟨-, -, d2, Q2, hd2, hsp, hk⟩ := h1 (up w1 121 0 0) (fun c x hc => up_n (Or.inl hc))
      exact zWq_r hz hzr (by rw [if_pos rfl, if_pos hz0]; rfl) (up_same _ _ _ _) hd2 hsp hk
    · refine zA_lconst dL_doubt_11 ?_
      refine zA_goto (tgt := 16) dL_doubt_12 (by decide) ?_
      refine zA_lastore dL_doubt_16 rfl ⟨by decide, by decide⟩ c121 (by decide) (by decide) (by decide) ?_
      refine zA_goto (tgt := 24) dL_doubt_17 (by decide) ?_
      refine zA_iconst dL_doubt_24 ?_
      refine zA_iret dL_doubt_25 rfl ?_
      obtain ⟨-, -, d2, Q2, hd2, hsp, hk⟩ := h1 (up w1 121 0 1) (fun c x hc => up_n (Or.inl hc))
      exact zWq_r hz hzr (by rw [if_pos rfl, if_neg hz0]; rfl) (up_same _ _ _ _) hd2 hsp hk
  · obtain ⟨k, hk, ⟨t1, dr1, tx1, rfl⟩, d2, Q2, hd2, hsp, hkk⟩ := hthr E S1 w1 hx
    rcases hk with ⟨rfl, rfl, h0⟩ | ⟨rfl, rfl, h0⟩
    · refine zHn_1 (tl := []) (lo1 := [zR 0, zI p0, zI p1, zR 121, .null]) rfl (by decide) (by decide) zlk_NSE (List.mem_cons_of_mem _ List.mem_cons_self) dL_doubt_20 (by decide) rfl rfl ?_
      refine zA_iconst dL_doubt_22 ?_
      refine zA_iret dL_doubt_23 rfl ?_
      exact zWq_x (by decide) (by decide) hd2 hsp hkk
    · exact absurd rfl h0
set_option maxRecDepth 100000 in
set_option maxHeartbeats 4000000 in
theorem w_lean {l : Launch} {n t dr tx : Nat} {w : zW} {p0 p1 p2 : Int} (hp : zPr l n mX11_lean mX12_lean 1 2 false [zI p0, zI p1, zI p2] t dr tx w) : zSp l mL_lean false 15 3 18 [zR 0, zI p0, zI p1, zI p2, zR 121] (ZZ t dr tx) w (zWq l n mX12_lean false [zI p0, zI p1, zI p2]) zNo := by
  obtain ⟨d, bc, bs, Q, X, ⟨hd, hbc, hbs⟩, hs, hret, hthr⟩ := hp
  refine zA_intro ⟨plainFor_of_name (by decide +kernel), Or.inl (by decide +kernel)⟩ rfl (Nat.le_of_ble_eq_true rfl) ?_
  show zA l mL_lean false 15 3 18 (zWq l n mX12_lean false [zI p0, zI p1, zI p2]) zNo 0 [zR 0, zI p0, zI p1, zI p2, zR 121, .null] [] (ZZ t dr tx) w
  refine zA_aload dL_lean_0 rfl ?_
  refine zA_iconst dL_lean_2 ?_
  refine zA_aload_n dL_lean_3 rfl ?_
  refine zA_iload_n dL_lean_4 rfl ?_
  refine zA_iload_n dL_lean_5 rfl ?_
  refine zA_iload_n dL_lean_6 rfl ?_
  refine zA_callVX (st := [zI 0, zR 121]) (bc2 := 3 - bc) (bs2 := 18 - bs) dL_lean_7 vX11_lean kL_41 hs (by omega) rfl rfl (Nat.le_of_ble_eq_true rfl) c0 rfl ⟨by omega, by omega⟩ (fun v S1 w1 hq => ?_) (fun E S1 w1 hx => ?_)
  · have h1 := hret v S1 w1 hq
    obtain ⟨⟨t1, dr1, tx1, rfl⟩, hv, -⟩ := h1 w1 (fun _ _ _ => rfl)
    obtain ⟨z0, rfl⟩ : ∃ z, v = some (zI z) := hv
    obtain ⟨z, hz, hzr⟩ := zI_in z0
    show zA l mL_lean false 15 (3 - bc) (18 - bs) (zWq l n mX12_lean false [zI p0, zI p1, zI p2]) zNo 10 [zR 0, zI p0, zI p1, zI p2, zR 121, .null] [zI z0, zI 0, zR 121] (ZZ t1 dr1 tx1) w1
    rw [hz]
    refine zA_i2l dL_lean_10 hzr ?_
    refine zA_lastore dL_lean_11 rfl hzr c121 (by decide) (by decide) (by decide) ?_
    refine zA_goto (tgt := 23) dL_lean_12 (by decide) ?_
    refine zA_iconst dL_lean_23 ?_
    refine zA_iret dL_lean_24 rfl ?_
    obtain ⟨-, -, d2, Q2, hd2, hsp, hk⟩ := h1 (up w1 121 0 z) (fun c x hc => up_n (Or.inl hc))
    exact zWq_r hz hzr rfl (up_same _ _ _ _) hd2 hsp hk
  · obtain ⟨k, hk, ⟨t1, dr1, tx1, rfl⟩, d2, Q2, hd2, hsp, hkk⟩ := hthr E S1 w1 hx
    rcases hk with ⟨rfl, rfl, h0⟩ | ⟨rfl, rfl, h0⟩
    · refine zHn_1 (tl := [(0, 12, 19, 13)]) (lo1 := [zR 0, zI p0, zI p1, zI p2, zR 121, .null]) rfl (by decide) (by decide) zlk_NSE (List.mem_cons_of_mem _ List.mem_cons_self) dL_lean_15 (by decide) rfl rfl ?_
      refine zA_iconst dL_lean_17 ?_
      refine zA_iret dL_lean_18 rfl ?_
      exact zWq_x (by decide) (by decide) hd2 hsp hkk
    · refine zHn_2 (tl := []) (lo1 := [zR 0, zI p0, zI p1, zI p2, zR 121, .null]) rfl (by decide) zlk_NSE (by decide) (by decide) zlk_IAE dL_lean_19 (by decide) rfl rfl ?_
      refine zA_iconst dL_lean_21 ?_
      refine zA_iret dL_lean_22 rfl ?_
      exact zWq_x (by decide) (by decide) hd2 hsp hkk
set_option maxRecDepth 100000 in
set_option maxHeartbeats 4000000 in
theorem w_limit {l : Launch} {n t dr tx : Nat} {w : zW} {p0 p1 p2 : Int} (hp : zPr l n mX11_limit mX12_limit 1 0 false [zI p0, zI p1, zI p2] t dr tx w) : zSp l mL_limit false 15 3 18 [zR 0, zI p0, zI p1, zI p2, zR 121] (ZZ t dr tx) w (zWq l n mX12_limit false [zI p0, zI p1, zI p2]) zNo := by
  obtain ⟨d, bc, bs, Q, X, ⟨hd, hbc, hbs⟩, hs, hret, hthr⟩ := hp
  refine zA_intro ⟨plainFor_of_name (by decide +kernel), Or.inl (by decide +kernel)⟩ rfl (Nat.le_of_ble_eq_true rfl) ?_
  show zA l mL_limit false 15 3 18 (zWq l n mX12_limit false [zI p0, zI p1, zI p2]) zNo 0 [zR 0, zI p0, zI p1, zI p2, zR 121, .null] [] (ZZ t dr tx) w
  refine zA_aload dL_limit_0 rfl ?_
  refine zA_iconst dL_limit_2 ?_
  refine zA_aload_n dL_limit_3 rfl ?_
  refine zA_iload_n dL_limit_4 rfl ?_
  refine zA_iload_n dL_limit_5 rfl ?_
  refine zA_iload_n dL_limit_6 rfl ?_
  refine zA_callVX (st := [zI 0, zR 121]) (bc2 := 3 - bc) (bs2 := 18 - bs) dL_limit_7 vX11_limit kL_45 hs (by omega) rfl rfl (Nat.le_of_ble_eq_true rfl) c0 rfl ⟨by omega, by omega⟩ (fun v S1 w1 hq => ?_) (fun E S1 w1 hx => ?_)
  · have h1 := hret v S1 w1 hq
    obtain ⟨⟨t1, dr1, tx1, rfl⟩, hv, -⟩ := h1 w1 (fun _ _ _ => rfl)
    obtain ⟨z0, rfl⟩ : ∃ z, v = some (zI z) := hv
    obtain ⟨z, hz, hzr⟩ := zI_in z0
    show zA l mL_limit false 15 (3 - bc) (18 - bs) (zWq l n mX12_limit false [zI p0, zI p1, zI p2]) zNo 10 [zR 0, zI p0, zI p1, zI p2, zR 121, .null] [zI z0, zI 0, zR 121] (ZZ t1 dr1 tx1) w1
    rw [hz]
    refine zA_i2l dL_limit_10 hzr ?_
    refine zA_lastore dL_limit_11 rfl hzr c121 (by decide) (by decide) (by decide) ?_
    refine zA_goto (tgt := 19) dL_limit_12 (by decide) ?_
    refine zA_iconst dL_limit_19 ?_
    refine zA_iret dL_limit_20 rfl ?_
    obtain ⟨-, -, d2, Q2, hd2, hsp, hk⟩ := h1 (up w1 121 0 z) (fun c x hc => up_n (Or.inl hc))
    exact zWq_r hz hzr rfl (up_same _ _ _ _) hd2 hsp hk
  · obtain ⟨k, hk, ⟨t1, dr1, tx1, rfl⟩, d2, Q2, hd2, hsp, hkk⟩ := hthr E S1 w1 hx
    rcases hk with ⟨rfl, rfl, h0⟩ | ⟨rfl, rfl, h0⟩
    · refine zHn_1 (tl := []) (lo1 := [zR 0, zI p0, zI p1, zI p2, zR 121, .null]) rfl (by decide) (by decide) zlk_NSE (List.mem_cons_of_mem _ List.mem_cons_self) dL_limit_15 (by decide) rfl rfl ?_
      refine zA_iconst dL_limit_17 ?_
      refine zA_iret dL_limit_18 rfl ?_
      exact zWq_x (by decide) (by decide) hd2 hsp hkk
    · exact absurd rfl h0
set_option maxRecDepth 100000 in
set_option maxHeartbeats 4000000 in
theorem w_tell {l : Launch} {n t dr tx : Nat} {w : zW} {p0 p1 p2 : Int} (hp : zPr l n mX11_tell mX12_tell 0 1 false [zI p0, zI p1, zI p2] t dr tx w) : zSp l mL_tell false 15 3 18 [zR 0, zI p0, zI p1, zI p2, zR 121] (ZZ t dr tx) w (zWq l n mX12_tell false [zI p0, zI p1, zI p2]) zNo := by
  obtain ⟨d, bc, bs, Q, X, ⟨hd, hbc, hbs⟩, hs, hret, hthr⟩ := hp
  refine zA_intro ⟨plainFor_of_name (by decide +kernel), Or.inl (by decide +kernel)⟩ rfl (Nat.le_of_ble_eq_true rfl) ?_
  show zA l mL_tell false 15 3 18 (zWq l n mX12_tell false [zI p0, zI p1, zI p2]) zNo 0 [zR 0, zI p0, zI p1, zI p2, zR 121, .null] [] (ZZ t dr tx) w
  refine zA_aload dL_tell_0 rfl ?_
  refine zA_iconst dL_tell_2 ?_
  refine zA_aload_n dL_tell_3 rfl ?_
  refine zA_iload_n dL_tell_4 rfl ?_
  refine zA_iload_n dL_tell_5 rfl ?_
  refine zA_iload_n dL_tell_6 rfl ?_
  refine zA_callVX (st := [zI 0, zR 121]) (bc2 := 3 - bc) (bs2 := 18 - bs) dL_tell_7 vX11_tell kL_48 hs (by omega) rfl rfl (Nat.le_of_ble_eq_true rfl) c0 rfl ⟨by omega, by omega⟩ (fun v S1 w1 hq => ?_) (fun E S1 w1 hx => ?_)
  · have h1 := hret v S1 w1 hq
    obtain ⟨⟨t1, dr1, tx1, rfl⟩, hv, -⟩ := h1 w1 (fun _ _ _ => rfl)
    obtain ⟨z0, rfl⟩ : ∃ z, v = some (zI z) := hv
    obtain ⟨z, hz, hzr⟩ := zI_in z0
    show zA l mL_tell false 15 (3 - bc) (18 - bs) (zWq l n mX12_tell false [zI p0, zI p1, zI p2]) zNo 10 [zR 0, zI p0, zI p1, zI p2, zR 121, .null] [zI z0, zI 0, zR 121] (ZZ t1 dr1 tx1) w1
    rw [hz]
    refine zA_i2l dL_tell_10 hzr ?_
    refine zA_lastore dL_tell_11 rfl hzr c121 (by decide) (by decide) (by decide) ?_
    refine zA_goto (tgt := 19) dL_tell_12 (by decide) ?_
    refine zA_iconst dL_tell_19 ?_
    refine zA_iret dL_tell_20 rfl ?_
    obtain ⟨-, -, d2, Q2, hd2, hsp, hk⟩ := h1 (up w1 121 0 z) (fun c x hc => up_n (Or.inl hc))
    exact zWq_r hz hzr rfl (up_same _ _ _ _) hd2 hsp hk
  · obtain ⟨k, hk, ⟨t1, dr1, tx1, rfl⟩, d2, Q2, hd2, hsp, hkk⟩ := hthr E S1 w1 hx
    rcases hk with ⟨rfl, rfl, h0⟩ | ⟨rfl, rfl, h0⟩
    · exact absurd rfl h0
    · refine zHn_1 (tl := []) (lo1 := [zR 0, zI p0, zI p1, zI p2, zR 121, .null]) rfl (by decide) (by decide) zlk_IAE (List.mem_cons_self) dL_tell_15 (by decide) rfl rfl ?_
      refine zA_iconst dL_tell_17 ?_
      refine zA_iret dL_tell_18 rfl ?_
      exact zWq_x (by decide) (by decide) hd2 hsp hkk
set_option maxRecDepth 100000 in
set_option maxHeartbeats 4000000 in
theorem w_sure {l : Launch} {n t dr tx : Nat} {w : zW} {p0 : Int} (hp : zPr l n mX11_sure mX12_sure 1 2 false [zI p0] t dr tx w) : zSp l mL_sure false 15 3 18 [zR 0, zI p0, zR 121] (ZZ t dr tx) w (zWq l n mX12_sure false [zI p0]) zNo := by
  obtain ⟨d, bc, bs, Q, X, ⟨hd, hbc, hbs⟩, hs, hret, hthr⟩ := hp
  refine zA_intro ⟨plainFor_of_name (by decide +kernel), Or.inl (by decide +kernel)⟩ rfl (Nat.le_of_ble_eq_true rfl) ?_
  show zA l mL_sure false 15 3 18 (zWq l n mX12_sure false [zI p0]) zNo 0 [zR 0, zI p0, zR 121, .null] [] (ZZ t dr tx) w
  refine zA_aload_n dL_sure_0 rfl ?_
  refine zA_iconst dL_sure_1 ?_
  refine zA_aload_n dL_sure_2 rfl ?_
  refine zA_iload_n dL_sure_3 rfl ?_
  refine zA_callVX (st := [zI 0, zR 121]) (bc2 := 3 - bc) (bs2 := 18 - bs) dL_sure_4 vX11_sure kL_51 hs (by omega) rfl rfl (Nat.le_of_ble_eq_true rfl) c0 rfl ⟨by omega, by omega⟩ (fun v S1 w1 hq => ?_) (fun E S1 w1 hx => ?_)
  · have h1 := hret v S1 w1 hq
    obtain ⟨⟨t1, dr1, tx1, rfl⟩, hv, -⟩ := h1 w1 (fun _ _ _ => rfl)
    obtain ⟨z0, rfl⟩ : ∃ z, v = some (zI z) := hv
    obtain ⟨z, hz, hzr⟩ := zI_in z0
    show zA l mL_sure false 15 (3 - bc) (18 - bs) (zWq l n mX12_sure false [zI p0]) zNo 7 [zR 0, zI p0, zR 121, .null] [zI z0, zI 0, zR 121] (ZZ t1 dr1 tx1) w1
    rw [hz]
    refine zA_i2l dL_sure_7 hzr ?_
    refine zA_lastore dL_sure_8 rfl hzr c121 (by decide) (by decide) (by decide) ?_
    refine zA_goto (tgt := 18) dL_sure_9 (by decide) ?_
    refine zA_iconst dL_sure_18 ?_
    refine zA_iret dL_sure_19 rfl ?_
    obtain ⟨-, -, d2, Q2, hd2, hsp, hk⟩ := h1 (up w1 121 0 z) (fun c x hc => up_n (Or.inl hc))
    exact zWq_r hz hzr rfl (up_same _ _ _ _) hd2 hsp hk
  · obtain ⟨k, hk, ⟨t1, dr1, tx1, rfl⟩, d2, Q2, hd2, hsp, hkk⟩ := hthr E S1 w1 hx
    rcases hk with ⟨rfl, rfl, h0⟩ | ⟨rfl, rfl, h0⟩
    · refine zHn_1n (tl := [(0, 9, 15, 13)]) (lo1 := [zR 0, zI p0, zR 121, .null]) rfl (by decide) (by decide) zlk_NSE (List.mem_cons_of_mem _ List.mem_cons_self) dL_sure_12 (by decide) rfl rfl ?_
      refine zA_iconst dL_sure_13 ?_
      refine zA_iret dL_sure_14 rfl ?_
      exact zWq_x (by decide) (by decide) hd2 hsp hkk
    · refine zHn_2n (tl := []) (lo1 := [zR 0, zI p0, zR 121, .null]) rfl (by decide) zlk_NSE (by decide) (by decide) zlk_IAE dL_sure_15 (by decide) rfl rfl ?_
      refine zA_iconst dL_sure_16 ?_
      refine zA_iret dL_sure_17 rfl ?_
      exact zWq_x (by decide) (by decide) hd2 hsp hkk
set_option maxRecDepth 100000 in
set_option maxHeartbeats 4000000 in
theorem w_next {l : Launch} {n t dr tx : Nat} {w : zW} {p0 : Int} (hp : zPr l n mX11_next mX12_next 1 2 false [zI p0] t dr tx w) : zSp l mL_next false 15 3 18 [zR 0, zI p0, zR 121] (ZZ t dr tx) w (zWq l n mX12_next false [zI p0]) zNo := by
  obtain ⟨d, bc, bs, Q, X, ⟨hd, hbc, hbs⟩, hs, hret, hthr⟩ := hp
  refine zA_intro ⟨plainFor_of_name (by decide +kernel), Or.inl (by decide +kernel)⟩ rfl (Nat.le_of_ble_eq_true rfl) ?_
  show zA l mL_next false 15 3 18 (zWq l n mX12_next false [zI p0]) zNo 0 [zR 0, zI p0, zR 121, .null] [] (ZZ t dr tx) w
  refine zA_aload_n dL_next_0 rfl ?_
  refine zA_iconst dL_next_1 ?_
  refine zA_aload_n dL_next_2 rfl ?_
  refine zA_iload_n dL_next_3 rfl ?_
  refine zA_callVX (st := [zI 0, zR 121]) (bc2 := 3 - bc) (bs2 := 18 - bs) dL_next_4 vX11_next kL_54 hs (by omega) rfl rfl (Nat.le_of_ble_eq_true rfl) c0 rfl ⟨by omega, by omega⟩ (fun v S1 w1 hq => ?_) (fun E S1 w1 hx => ?_)
  · have h1 := hret v S1 w1 hq
    obtain ⟨⟨t1, dr1, tx1, rfl⟩, hv, -⟩ := h1 w1 (fun _ _ _ => rfl)
    obtain ⟨z0, rfl⟩ : ∃ z, v = some (zI z) := hv
    obtain ⟨z, hz, hzr⟩ := zI_in z0
    show zA l mL_next false 15 (3 - bc) (18 - bs) (zWq l n mX12_next false [zI p0]) zNo 7 [zR 0, zI p0, zR 121, .null] [zI z0, zI 0, zR 121] (ZZ t1 dr1 tx1) w1
    rw [hz]
    refine zA_i2l dL_next_7 hzr ?_
    refine zA_lastore dL_next_8 rfl hzr c121 (by decide) (by decide) (by decide) ?_
    refine zA_goto (tgt := 18) dL_next_9 (by decide) ?_
    refine zA_iconst dL_next_18 ?_
    refine zA_iret dL_next_19 rfl ?_
    obtain ⟨-, -, d2, Q2, hd2, hsp, hk⟩ := h1 (up w1 121 0 z) (fun c x hc => up_n (Or.inl hc))
    exact zWq_r hz hzr rfl (up_same _ _ _ _) hd2 hsp hk
  · obtain ⟨k, hk, ⟨t1, dr1, tx1, rfl⟩, d2, Q2, hd2, hsp, hkk⟩ := hthr E S1 w1 hx
    rcases hk with ⟨rfl, rfl, h0⟩ | ⟨rfl, rfl, h0⟩
    · refine zHn_1n (tl := [(0, 9, 15, 13)]) (lo1 := [zR 0, zI p0, zR 121, .null]) rfl (by decide) (by decide) zlk_NSE (List.mem_cons_of_mem _ List.mem_cons_self) dL_next_12 (by decide) rfl rfl ?_
      refine zA_iconst dL_next_13 ?_
      refine zA_iret dL_next_14 rfl ?_
      exact zWq_x (by decide) (by decide) hd2 hsp hkk
    · refine zHn_2n (tl := []) (lo1 := [zR 0, zI p0, zR 121, .null]) rfl (by decide) zlk_NSE (by decide) (by decide) zlk_IAE dL_next_15 (by decide) rfl rfl ?_
      refine zA_iconst dL_next_16 ?_
      refine zA_iret dL_next_17 rfl ?_
      exact zWq_x (by decide) (by decide) hd2 hsp hkk
set_option maxRecDepth 100000 in
set_option maxHeartbeats 4000000 in
theorem w_stands {l : Launch} {n t dr tx : Nat} {w : zW} {p0 p1 p2 : Int} (hp : zPr l n mX11_stands mX12_stands 0 1 false [zI p0, zI p1, zI p2] t dr tx w) : zSp l mL_stands false 15 3 18 [zR 0, zI p0, zI p1, zI p2, zR 121] (ZZ t dr tx) w (zWq l n mX12_stands true [zI p0, zI p1, zI p2]) zNo := by
  obtain ⟨d, bc, bs, Q, X, ⟨hd, hbc, hbs⟩, hs, hret, hthr⟩ := hp
  refine zA_intro ⟨plainFor_of_name (by decide +kernel), Or.inl (by decide +kernel)⟩ rfl (Nat.le_of_ble_eq_true rfl) ?_
  show zA l mL_stands false 15 3 18 (zWq l n mX12_stands true [zI p0, zI p1, zI p2]) zNo 0 [zR 0, zI p0, zI p1, zI p2, zR 121, .null] [] (ZZ t dr tx) w
  refine zA_aload dL_stands_0 rfl ?_
  refine zA_iconst dL_stands_2 ?_
  refine zA_aload_n dL_stands_3 rfl ?_
  refine zA_iload_n dL_stands_4 rfl ?_
  refine zA_iload_n dL_stands_5 rfl ?_
  refine zA_iload_n dL_stands_6 rfl ?_
  refine zA_callVX (st := [zI 0, zR 121]) (bc2 := 3 - bc) (bs2 := 18 - bs) dL_stands_7 vX11_stands kL_57 hs (by omega) rfl rfl (Nat.le_of_ble_eq_true rfl) c0 rfl ⟨by omega, by omega⟩ (fun v S1 w1 hq => ?_) (fun E S1 w1 hx => ?_)
  · have h1 := hret v S1 w1 hq
    obtain ⟨⟨t1, dr1, tx1, rfl⟩, hv, -⟩ := h1 w1 (fun _ _ _ => rfl)
    obtain ⟨z0, rfl⟩ : ∃ z, v = some (zI z) := hv
    obtain ⟨z, hz, hzr⟩ := zI_in z0
    show zA l mL_stands false 15 (3 - bc) (18 - bs) (zWq l n mX12_stands true [zI p0, zI p1, zI p2]) zNo 10 [zR 0, zI p0, zI p1, zI p2, zR 121, .null] [zI z0, zI 0, zR 121] (ZZ t1 dr1 tx1) w1
    rw [hz]
    refine zA_if_eq (tgt := 17) dL_stands_10 (by decide) hzr (fun hz0 => ?_) (fun hz0 => ?_)
    · refine zA_lconst dL_stands_17 ?_
      refine zA_lastore dL_stands_18 rfl ⟨by decide, by decide⟩ c121 (by decide) (by decide) (by decide) ?_
      refine zA_goto (tgt := 26) dL_stands_19 (by decide) ?_
      refine zA_iconst dL_stands_26 ?_
      refine zA_iret dL_stands_27 rfl ?_
      obtain ⟨-, -, d2, Q2, hd2, hsp, hk⟩ := h1 (up w1 121 0 0) (fun c x hc => up_n (Or.inl hc))
      exact zWq_r hz hzr (by rw [if_pos rfl, if_pos hz0]; rfl) (up_same _ _ _ _) hd2 hsp hk
    · refine zA_lconst dL_stands_13 ?_
      refine zA_goto (tgt := 18) dL_stands_14 (by decide) ?_
      refine zA_lastore dL_stands_18 rfl ⟨by decide, by decide⟩ c121 (by decide) (by decide) (by decide) ?_
      refine zA_goto (tgt := 26) dL_stands_19 (by decide) ?_
      refine zA_iconst dL_stands_26 ?_
      refine zA_iret dL_stands_27 rfl ?_
      obtain ⟨-, -, d2, Q2, hd2, hsp, hk⟩ := h1 (up w1 121 0 1) (fun c x hc => up_n (Or.inl hc))
      exact zWq_r hz hzr (by rw [if_pos rfl, if_neg hz0]; rfl) (up_same _ _ _ _) hd2 hsp hk
  · obtain ⟨k, hk, ⟨t1, dr1, tx1, rfl⟩, d2, Q2, hd2, hsp, hkk⟩ := hthr E S1 w1 hx
    rcases hk with ⟨rfl, rfl, h0⟩ | ⟨rfl, rfl, h0⟩
    · exact absurd rfl h0
    · refine zHn_1 (tl := []) (lo1 := [zR 0, zI p0, zI p1, zI p2, zR 121, .null]) rfl (by decide) (by decide) zlk_IAE (List.mem_cons_self) dL_stands_22 (by decide) rfl rfl ?_
      refine zA_iconst dL_stands_24 ?_
      refine zA_iret dL_stands_25 rfl ?_
      exact zWq_x (by decide) (by decide) hd2 hsp hkk
set_option maxRecDepth 100000 in
set_option maxHeartbeats 4000000 in
theorem w_cut {l : Launch} {n t dr tx : Nat} {w : zW} {p0 p1 p2 p3 : Int} (hp : zPr l n mX11_cut mX12_cut 0 1 false [zI p0, zI p1, zI p2, zI p3] t dr tx w) : zSp l mL_cut false 15 3 18 [zR 0, zI p0, zI p1, zI p2, zI p3, zR 121] (ZZ t dr tx) w (zWq l n mX12_cut false [zI p0, zI p1, zI p2, zI p3]) zNo := by
  obtain ⟨d, bc, bs, Q, X, ⟨hd, hbc, hbs⟩, hs, hret, hthr⟩ := hp
  refine zA_intro ⟨plainFor_of_name (by decide +kernel), Or.inl (by decide +kernel)⟩ rfl (Nat.le_of_ble_eq_true rfl) ?_
  show zA l mL_cut false 15 3 18 (zWq l n mX12_cut false [zI p0, zI p1, zI p2, zI p3]) zNo 0 [zR 0, zI p0, zI p1, zI p2, zI p3, zR 121, .null] [] (ZZ t dr tx) w
  refine zA_aload dL_cut_0 rfl ?_
  refine zA_iconst dL_cut_2 ?_
  refine zA_aload_n dL_cut_3 rfl ?_
  refine zA_iload_n dL_cut_4 rfl ?_
  refine zA_iload_n dL_cut_5 rfl ?_
  refine zA_iload_n dL_cut_6 rfl ?_
  refine zA_iload dL_cut_7 rfl ?_
  refine zA_callVX (st := [zI 0, zR 121]) (bc2 := 3 - bc) (bs2 := 18 - bs) dL_cut_9 vX11_cut kL_60 hs (by omega) rfl rfl (Nat.le_of_ble_eq_true rfl) c0 rfl ⟨by omega, by omega⟩ (fun v S1 w1 hq => ?_) (fun E S1 w1 hx => ?_)
  · have h1 := hret v S1 w1 hq
    obtain ⟨⟨t1, dr1, tx1, rfl⟩, hv, -⟩ := h1 w1 (fun _ _ _ => rfl)
    obtain ⟨z0, rfl⟩ : ∃ z, v = some (zI z) := hv
    obtain ⟨z, hz, hzr⟩ := zI_in z0
    show zA l mL_cut false 15 (3 - bc) (18 - bs) (zWq l n mX12_cut false [zI p0, zI p1, zI p2, zI p3]) zNo 12 [zR 0, zI p0, zI p1, zI p2, zI p3, zR 121, .null] [zI z0, zI 0, zR 121] (ZZ t1 dr1 tx1) w1
    rw [hz]
    refine zA_i2l dL_cut_12 hzr ?_
    refine zA_lastore dL_cut_13 rfl hzr c121 (by decide) (by decide) (by decide) ?_
    refine zA_goto (tgt := 21) dL_cut_14 (by decide) ?_
    refine zA_iconst dL_cut_21 ?_
    refine zA_iret dL_cut_22 rfl ?_
    obtain ⟨-, -, d2, Q2, hd2, hsp, hk⟩ := h1 (up w1 121 0 z) (fun c x hc => up_n (Or.inl hc))
    exact zWq_r hz hzr rfl (up_same _ _ _ _) hd2 hsp hk
  · obtain ⟨k, hk, ⟨t1, dr1, tx1, rfl⟩, d2, Q2, hd2, hsp, hkk⟩ := hthr E S1 w1 hx
    rcases hk with ⟨rfl, rfl, h0⟩ | ⟨rfl, rfl, h0⟩
    · exact absurd rfl h0
    · refine zHn_1 (tl := []) (lo1 := [zR 0, zI p0, zI p1, zI p2, zI p3, zR 121, .null]) rfl (by decide) (by decide) zlk_IAE (List.mem_cons_self) dL_cut_17 (by decide) rfl rfl ?_
      refine zA_iconst dL_cut_19 ?_
      refine zA_iret dL_cut_20 rfl ?_
      exact zWq_x (by decide) (by decide) hd2 hsp hkk
set_option maxRecDepth 100000 in
set_option maxHeartbeats 4000000 in
theorem w_fell {l : Launch} {n t dr tx : Nat} {w : zW} {p0 p1 p2 p3 : Int} (hp : zPr l n mX11_fell mX12_fell 0 1 false [zI p0, zI p1, zI p2, zI p3] t dr tx w) : zSp l mL_fell false 15 3 18 [zR 0, zI p0, zI p1, zI p2, zI p3, zR 121] (ZZ t dr tx) w (zWq l n mX12_fell false [zI p0, zI p1, zI p2, zI p3]) zNo := by
  obtain ⟨d, bc, bs, Q, X, ⟨hd, hbc, hbs⟩, hs, hret, hthr⟩ := hp
  refine zA_intro ⟨plainFor_of_name (by decide +kernel), Or.inl (by decide +kernel)⟩ rfl (Nat.le_of_ble_eq_true rfl) ?_
  show zA l mL_fell false 15 3 18 (zWq l n mX12_fell false [zI p0, zI p1, zI p2, zI p3]) zNo 0 [zR 0, zI p0, zI p1, zI p2, zI p3, zR 121, .null] [] (ZZ t dr tx) w
  refine zA_aload dL_fell_0 rfl ?_
  refine zA_iconst dL_fell_2 ?_
  refine zA_aload_n dL_fell_3 rfl ?_
  refine zA_iload_n dL_fell_4 rfl ?_
  refine zA_iload_n dL_fell_5 rfl ?_
  refine zA_iload_n dL_fell_6 rfl ?_
  refine zA_iload dL_fell_7 rfl ?_
  refine zA_callVX (st := [zI 0, zR 121]) (bc2 := 3 - bc) (bs2 := 18 - bs) dL_fell_9 vX11_fell kL_64 hs (by omega) rfl rfl (Nat.le_of_ble_eq_true rfl) c0 rfl ⟨by omega, by omega⟩ (fun v S1 w1 hq => ?_) (fun E S1 w1 hx => ?_)
  · have h1 := hret v S1 w1 hq
    obtain ⟨⟨t1, dr1, tx1, rfl⟩, hv, -⟩ := h1 w1 (fun _ _ _ => rfl)
    obtain ⟨z0, rfl⟩ : ∃ z, v = some (zI z) := hv
    obtain ⟨z, hz, hzr⟩ := zI_in z0
    show zA l mL_fell false 15 (3 - bc) (18 - bs) (zWq l n mX12_fell false [zI p0, zI p1, zI p2, zI p3]) zNo 12 [zR 0, zI p0, zI p1, zI p2, zI p3, zR 121, .null] [zI z0, zI 0, zR 121] (ZZ t1 dr1 tx1) w1
    rw [hz]
    refine zA_i2l dL_fell_12 hzr ?_
    refine zA_lastore dL_fell_13 rfl hzr c121 (by decide) (by decide) (by decide) ?_
    refine zA_goto (tgt := 21) dL_fell_14 (by decide) ?_
    refine zA_iconst dL_fell_21 ?_
    refine zA_iret dL_fell_22 rfl ?_
    obtain ⟨-, -, d2, Q2, hd2, hsp, hk⟩ := h1 (up w1 121 0 z) (fun c x hc => up_n (Or.inl hc))
    exact zWq_r hz hzr rfl (up_same _ _ _ _) hd2 hsp hk
  · obtain ⟨k, hk, ⟨t1, dr1, tx1, rfl⟩, d2, Q2, hd2, hsp, hkk⟩ := hthr E S1 w1 hx
    rcases hk with ⟨rfl, rfl, h0⟩ | ⟨rfl, rfl, h0⟩
    · exact absurd rfl h0
    · refine zHn_1 (tl := []) (lo1 := [zR 0, zI p0, zI p1, zI p2, zI p3, zR 121, .null]) rfl (by decide) (by decide) zlk_IAE (List.mem_cons_self) dL_fell_17 (by decide) rfl rfl ?_
      refine zA_iconst dL_fell_19 ?_
      refine zA_iret dL_fell_20 rfl ?_
      exact zWq_x (by decide) (by decide) hd2 hsp hkk
set_option maxRecDepth 100000 in
set_option maxHeartbeats 4000000 in
theorem w_life {l : Launch} {n t dr tx : Nat} {w : zW} {p0 : Int} (hp : zPr l n mX11_life mX12_life 1 0 false [zI p0] t dr tx w) : zSp l mL_life false 15 3 18 [zR 0, zI p0, zR 121] (ZZ t dr tx) w (zWq l n mX12_life false [zI p0]) zNo := by
  obtain ⟨d, bc, bs, Q, X, ⟨hd, hbc, hbs⟩, hs, hret, hthr⟩ := hp
  refine zA_intro ⟨plainFor_of_name (by decide +kernel), Or.inl (by decide +kernel)⟩ rfl (Nat.le_of_ble_eq_true rfl) ?_
  show zA l mL_life false 15 3 18 (zWq l n mX12_life false [zI p0]) zNo 0 [zR 0, zI p0, zR 121, .null] [] (ZZ t dr tx) w
  refine zA_aload_n dL_life_0 rfl ?_
  refine zA_iconst dL_life_1 ?_
  refine zA_aload_n dL_life_2 rfl ?_
  refine zA_iload_n dL_life_3 rfl ?_
  refine zA_callVX (st := [zI 0, zR 121]) (bc2 := 3 - bc) (bs2 := 18 - bs) dL_life_4 vX11_life kL_67 hs (by omega) rfl rfl (Nat.le_of_ble_eq_true rfl) c0 rfl ⟨by omega, by omega⟩ (fun v S1 w1 hq => ?_) (fun E S1 w1 hx => ?_)
  · have h1 := hret v S1 w1 hq
    obtain ⟨⟨t1, dr1, tx1, rfl⟩, hv, -⟩ := h1 w1 (fun _ _ _ => rfl)
    obtain ⟨z0, rfl⟩ : ∃ z, v = some (zI z) := hv
    obtain ⟨z, hz, hzr⟩ := zI_in z0
    show zA l mL_life false 15 (3 - bc) (18 - bs) (zWq l n mX12_life false [zI p0]) zNo 7 [zR 0, zI p0, zR 121, .null] [zI z0, zI 0, zR 121] (ZZ t1 dr1 tx1) w1
    rw [hz]
    refine zA_i2l dL_life_7 hzr ?_
    refine zA_lastore dL_life_8 rfl hzr c121 (by decide) (by decide) (by decide) ?_
    refine zA_goto (tgt := 15) dL_life_9 (by decide) ?_
    refine zA_iconst dL_life_15 ?_
    refine zA_iret dL_life_16 rfl ?_
    obtain ⟨-, -, d2, Q2, hd2, hsp, hk⟩ := h1 (up w1 121 0 z) (fun c x hc => up_n (Or.inl hc))
    exact zWq_r hz hzr rfl (up_same _ _ _ _) hd2 hsp hk
  · obtain ⟨k, hk, ⟨t1, dr1, tx1, rfl⟩, d2, Q2, hd2, hsp, hkk⟩ := hthr E S1 w1 hx
    rcases hk with ⟨rfl, rfl, h0⟩ | ⟨rfl, rfl, h0⟩
    · refine zHn_1n (tl := []) (lo1 := [zR 0, zI p0, zR 121, .null]) rfl (by decide) (by decide) zlk_NSE (List.mem_cons_of_mem _ List.mem_cons_self) dL_life_12 (by decide) rfl rfl ?_
      refine zA_iconst dL_life_13 ?_
      refine zA_iret dL_life_14 rfl ?_
      exact zWq_x (by decide) (by decide) hd2 hsp hkk
    · exact absurd rfl h0
set_option maxRecDepth 100000 in
set_option maxHeartbeats 4000000 in
theorem w_climbs {l : Launch} {n t dr tx : Nat} {w : zW} {p0 : Int} (hp : zPr l n mX11_climbs mX12_climbs 1 0 false [zI p0] t dr tx w) : zSp l mL_climbs false 15 3 18 [zR 0, zI p0, zR 121] (ZZ t dr tx) w (zWq l n mX12_climbs false [zI p0]) zNo := by
  obtain ⟨d, bc, bs, Q, X, ⟨hd, hbc, hbs⟩, hs, hret, hthr⟩ := hp
  refine zA_intro ⟨plainFor_of_name (by decide +kernel), Or.inl (by decide +kernel)⟩ rfl (Nat.le_of_ble_eq_true rfl) ?_
  show zA l mL_climbs false 15 3 18 (zWq l n mX12_climbs false [zI p0]) zNo 0 [zR 0, zI p0, zR 121, .null] [] (ZZ t dr tx) w
  refine zA_aload_n dL_climbs_0 rfl ?_
  refine zA_iconst dL_climbs_1 ?_
  refine zA_aload_n dL_climbs_2 rfl ?_
  refine zA_iload_n dL_climbs_3 rfl ?_
  refine zA_callVX (st := [zI 0, zR 121]) (bc2 := 3 - bc) (bs2 := 18 - bs) dL_climbs_4 vX11_climbs kL_70 hs (by omega) rfl rfl (Nat.le_of_ble_eq_true rfl) c0 rfl ⟨by omega, by omega⟩ (fun v S1 w1 hq => ?_) (fun E S1 w1 hx => ?_)
  · have h1 := hret v S1 w1 hq
    obtain ⟨⟨t1, dr1, tx1, rfl⟩, hv, -⟩ := h1 w1 (fun _ _ _ => rfl)
    obtain ⟨z0, rfl⟩ : ∃ z, v = some (zI z) := hv
    obtain ⟨z, hz, hzr⟩ := zI_in z0
    show zA l mL_climbs false 15 (3 - bc) (18 - bs) (zWq l n mX12_climbs false [zI p0]) zNo 7 [zR 0, zI p0, zR 121, .null] [zI z0, zI 0, zR 121] (ZZ t1 dr1 tx1) w1
    rw [hz]
    refine zA_i2l dL_climbs_7 hzr ?_
    refine zA_lastore dL_climbs_8 rfl hzr c121 (by decide) (by decide) (by decide) ?_
    refine zA_goto (tgt := 15) dL_climbs_9 (by decide) ?_
    refine zA_iconst dL_climbs_15 ?_
    refine zA_iret dL_climbs_16 rfl ?_
    obtain ⟨-, -, d2, Q2, hd2, hsp, hk⟩ := h1 (up w1 121 0 z) (fun c x hc => up_n (Or.inl hc))
    exact zWq_r hz hzr rfl (up_same _ _ _ _) hd2 hsp hk
  · obtain ⟨k, hk, ⟨t1, dr1, tx1, rfl⟩, d2, Q2, hd2, hsp, hkk⟩ := hthr E S1 w1 hx
    rcases hk with ⟨rfl, rfl, h0⟩ | ⟨rfl, rfl, h0⟩
    · refine zHn_1n (tl := []) (lo1 := [zR 0, zI p0, zR 121, .null]) rfl (by decide) (by decide) zlk_NSE (List.mem_cons_of_mem _ List.mem_cons_self) dL_climbs_12 (by decide) rfl rfl ?_
      refine zA_iconst dL_climbs_13 ?_
      refine zA_iret dL_climbs_14 rfl ?_
      exact zWq_x (by decide) (by decide) hd2 hsp hkk
    · exact absurd rfl h0
set_option maxRecDepth 100000 in
set_option maxHeartbeats 4000000 in
theorem w_up {l : Launch} {n t dr tx : Nat} {w : zW} {p0 p1 : Int} (hp : zPr l n mX11_up mX12_up 1 0 false [zI p0, zI p1] t dr tx w) : zSp l mL_up false 15 3 18 [zR 0, zI p0, zI p1, zR 121] (ZZ t dr tx) w (zWq l n mX12_up false [zI p0, zI p1]) zNo := by
  obtain ⟨d, bc, bs, Q, X, ⟨hd, hbc, hbs⟩, hs, hret, hthr⟩ := hp
  refine zA_intro ⟨plainFor_of_name (by decide +kernel), Or.inl (by decide +kernel)⟩ rfl (Nat.le_of_ble_eq_true rfl) ?_
  show zA l mL_up false 15 3 18 (zWq l n mX12_up false [zI p0, zI p1]) zNo 0 [zR 0, zI p0, zI p1, zR 121, .null] [] (ZZ t dr tx) w
  refine zA_aload_n dL_up_0 rfl ?_
  refine zA_iconst dL_up_1 ?_
  refine zA_aload_n dL_up_2 rfl ?_
  refine zA_iload_n dL_up_3 rfl ?_
  refine zA_iload_n dL_up_4 rfl ?_
  refine zA_callVX (st := [zI 0, zR 121]) (bc2 := 3 - bc) (bs2 := 18 - bs) dL_up_5 vX11_up kL_73 hs (by omega) rfl rfl (Nat.le_of_ble_eq_true rfl) c0 rfl ⟨by omega, by omega⟩ (fun v S1 w1 hq => ?_) (fun E S1 w1 hx => ?_)
  · have h1 := hret v S1 w1 hq
    obtain ⟨⟨t1, dr1, tx1, rfl⟩, hv, -⟩ := h1 w1 (fun _ _ _ => rfl)
    obtain ⟨z0, rfl⟩ : ∃ z, v = some (zI z) := hv
    obtain ⟨z, hz, hzr⟩ := zI_in z0
    show zA l mL_up false 15 (3 - bc) (18 - bs) (zWq l n mX12_up false [zI p0, zI p1]) zNo 8 [zR 0, zI p0, zI p1, zR 121, .null] [zI z0, zI 0, zR 121] (ZZ t1 dr1 tx1) w1
    rw [hz]
    refine zA_i2l dL_up_8 hzr ?_
    refine zA_lastore dL_up_9 rfl hzr c121 (by decide) (by decide) (by decide) ?_
    refine zA_goto (tgt := 17) dL_up_10 (by decide) ?_
    refine zA_iconst dL_up_17 ?_
    refine zA_iret dL_up_18 rfl ?_
    obtain ⟨-, -, d2, Q2, hd2, hsp, hk⟩ := h1 (up w1 121 0 z) (fun c x hc => up_n (Or.inl hc))
    exact zWq_r hz hzr rfl (up_same _ _ _ _) hd2 hsp hk
  · obtain ⟨k, hk, ⟨t1, dr1, tx1, rfl⟩, d2, Q2, hd2, hsp, hkk⟩ := hthr E S1 w1 hx
    rcases hk with ⟨rfl, rfl, h0⟩ | ⟨rfl, rfl, h0⟩
    · refine zHn_1 (tl := []) (lo1 := [zR 0, zI p0, zI p1, zR 121, .null]) rfl (by decide) (by decide) zlk_NSE (List.mem_cons_of_mem _ List.mem_cons_self) dL_up_13 (by decide) rfl rfl ?_
      refine zA_iconst dL_up_15 ?_
      refine zA_iret dL_up_16 rfl ?_
      exact zWq_x (by decide) (by decide) hd2 hsp hkk
    · exact absurd rfl h0
set_option maxRecDepth 100000 in
set_option maxHeartbeats 4000000 in
theorem w_band {l : Launch} {n t dr tx : Nat} {w : zW} {p0 p1 p2 p3 p4 : Int} (hp : zPr l n mX11_band mX12_band 1 0 false [zI p0, zI p1, zI p2, zI p3, zI p4] t dr tx w) : zSp l mL_band false 15 3 18 [zR 0, zI p0, zI p1, zI p2, zI p3, zI p4, zR 121] (ZZ t dr tx) w (zWq l n mX12_band false [zI p0, zI p1, zI p2, zI p3, zI p4]) zNo := by
  obtain ⟨d, bc, bs, Q, X, ⟨hd, hbc, hbs⟩, hs, hret, hthr⟩ := hp
  refine zA_intro ⟨plainFor_of_name (by decide +kernel), Or.inl (by decide +kernel)⟩ rfl (Nat.le_of_ble_eq_true rfl) ?_
  show zA l mL_band false 15 3 18 (zWq l n mX12_band false [zI p0, zI p1, zI p2, zI p3, zI p4]) zNo 0 [zR 0, zI p0, zI p1, zI p2, zI p3, zI p4, zR 121, .null] [] (ZZ t dr tx) w
  refine zA_aload dL_band_0 rfl ?_
  refine zA_iconst dL_band_2 ?_
  refine zA_aload_n dL_band_3 rfl ?_
  refine zA_iload_n dL_band_4 rfl ?_
  refine zA_iload_n dL_band_5 rfl ?_
  refine zA_iload_n dL_band_6 rfl ?_
  refine zA_iload dL_band_7 rfl ?_
  refine zA_iload dL_band_9 rfl ?_
  refine zA_callVX (st := [zI 0, zR 121]) (bc2 := 3 - bc) (bs2 := 18 - bs) dL_band_11 vX11_band kL_76 hs (by omega) rfl rfl (Nat.le_of_ble_eq_true rfl) c0 rfl ⟨by omega, by omega⟩ (fun v S1 w1 hq => ?_) (fun E S1 w1 hx => ?_)
  · have h1 := hret v S1 w1 hq
    obtain ⟨⟨t1, dr1, tx1, rfl⟩, hv, -⟩ := h1 w1 (fun _ _ _ => rfl)
    obtain ⟨z0, rfl⟩ : ∃ z, v = some (zI z) := hv
    obtain ⟨z, hz, hzr⟩ := zI_in z0
    show zA l mL_band false 15 (3 - bc) (18 - bs) (zWq l n mX12_band false [zI p0, zI p1, zI p2, zI p3, zI p4]) zNo 14 [zR 0, zI p0, zI p1, zI p2, zI p3, zI p4, zR 121, .null] [zI z0, zI 0, zR 121] (ZZ t1 dr1 tx1) w1
    rw [hz]
    refine zA_i2l dL_band_14 hzr ?_
    refine zA_lastore dL_band_15 rfl hzr c121 (by decide) (by decide) (by decide) ?_
    refine zA_goto (tgt := 23) dL_band_16 (by decide) ?_
    refine zA_iconst dL_band_23 ?_
    refine zA_iret dL_band_24 rfl ?_
    obtain ⟨-, -, d2, Q2, hd2, hsp, hk⟩ := h1 (up w1 121 0 z) (fun c x hc => up_n (Or.inl hc))
    exact zWq_r hz hzr rfl (up_same _ _ _ _) hd2 hsp hk
  · obtain ⟨k, hk, ⟨t1, dr1, tx1, rfl⟩, d2, Q2, hd2, hsp, hkk⟩ := hthr E S1 w1 hx
    rcases hk with ⟨rfl, rfl, h0⟩ | ⟨rfl, rfl, h0⟩
    · refine zHn_1 (tl := []) (lo1 := [zR 0, zI p0, zI p1, zI p2, zI p3, zI p4, zR 121, .null]) rfl (by decide) (by decide) zlk_NSE (List.mem_cons_of_mem _ List.mem_cons_self) dL_band_19 (by decide) rfl rfl ?_
      refine zA_iconst dL_band_21 ?_
      refine zA_iret dL_band_22 rfl ?_
      exact zWq_x (by decide) (by decide) hd2 hsp hkk
    · exact absurd rfl h0
set_option maxRecDepth 100000 in
set_option maxHeartbeats 4000000 in
theorem w_mortar {l : Launch} {n t dr tx : Nat} {w : zW} {p0 p1 : Int} (hp : zPr l n mX11_mortar mX12_mortar 1 0 false [zI p0, zI p1] t dr tx w) : zSp l mL_mortar false 15 3 18 [zR 0, zI p0, zI p1, zR 121] (ZZ t dr tx) w (zWq l n mX12_mortar true [zI p0, zI p1]) zNo := by
  obtain ⟨d, bc, bs, Q, X, ⟨hd, hbc, hbs⟩, hs, hret, hthr⟩ := hp
  refine zA_intro ⟨plainFor_of_name (by decide +kernel), Or.inl (by decide +kernel)⟩ rfl (Nat.le_of_ble_eq_true rfl) ?_
  show zA l mL_mortar false 15 3 18 (zWq l n mX12_mortar true [zI p0, zI p1]) zNo 0 [zR 0, zI p0, zI p1, zR 121, .null] [] (ZZ t dr tx) w
  refine zA_aload_n dL_mortar_0 rfl ?_
  refine zA_iconst dL_mortar_1 ?_
  refine zA_aload_n dL_mortar_2 rfl ?_
  refine zA_iload_n dL_mortar_3 rfl ?_
  refine zA_iload_n dL_mortar_4 rfl ?_
  refine zA_callVX (st := [zI 0, zR 121]) (bc2 := 3 - bc) (bs2 := 18 - bs) dL_mortar_5 vX11_mortar kL_80 hs (by omega) rfl rfl (Nat.le_of_ble_eq_true rfl) c0 rfl ⟨by omega, by omega⟩ (fun v S1 w1 hq => ?_) (fun E S1 w1 hx => ?_)
  · have h1 := hret v S1 w1 hq
    obtain ⟨⟨t1, dr1, tx1, rfl⟩, hv, -⟩ := h1 w1 (fun _ _ _ => rfl)
    obtain ⟨z0, rfl⟩ : ∃ z, v = some (zI z) := hv
    obtain ⟨z, hz, hzr⟩ := zI_in z0
    show zA l mL_mortar false 15 (3 - bc) (18 - bs) (zWq l n mX12_mortar true [zI p0, zI p1]) zNo 8 [zR 0, zI p0, zI p1, zR 121, .null] [zI z0, zI 0, zR 121] (ZZ t1 dr1 tx1) w1
    rw [hz]
    refine zA_if_eq (tgt := 15) dL_mortar_8 (by decide) hzr (fun hz0 => ?_) (fun hz0 => ?_)
    · refine zA_lconst dL_mortar_15 ?_
      refine zA_lastore dL_mortar_16 rfl ⟨by decide, by decide⟩ c121 (by decide) (by decide) (by decide) ?_
      refine zA_goto (tgt := 24) dL_mortar_17 (by decide) ?_
      refine zA_iconst dL_mortar_24 ?_
      refine zA_iret dL_mortar_25 rfl ?_
      obtain ⟨-, -, d2, Q2, hd2, hsp, hk⟩ := h1 (up w1 121 0 0) (fun c x hc => up_n (Or.inl hc))
      exact zWq_r hz hzr (by rw [if_pos rfl, if_pos hz0]; rfl) (up_same _ _ _ _) hd2 hsp hk
    · refine zA_lconst dL_mortar_11 ?_
      refine zA_goto (tgt := 16) dL_mortar_12 (by decide) ?_
      refine zA_lastore dL_mortar_16 rfl ⟨by decide, by decide⟩ c121 (by decide) (by decide) (by decide) ?_
      refine zA_goto (tgt := 24) dL_mortar_17 (by decide) ?_
      refine zA_iconst dL_mortar_24 ?_
      refine zA_iret dL_mortar_25 rfl ?_
      obtain ⟨-, -, d2, Q2, hd2, hsp, hk⟩ := h1 (up w1 121 0 1) (fun c x hc => up_n (Or.inl hc))
      exact zWq_r hz hzr (by rw [if_pos rfl, if_neg hz0]; rfl) (up_same _ _ _ _) hd2 hsp hk
  · obtain ⟨k, hk, ⟨t1, dr1, tx1, rfl⟩, d2, Q2, hd2, hsp, hkk⟩ := hthr E S1 w1 hx
    rcases hk with ⟨rfl, rfl, h0⟩ | ⟨rfl, rfl, h0⟩
    · refine zHn_1 (tl := []) (lo1 := [zR 0, zI p0, zI p1, zR 121, .null]) rfl (by decide) (by decide) zlk_NSE (List.mem_cons_of_mem _ List.mem_cons_self) dL_mortar_20 (by decide) rfl rfl ?_
      refine zA_iconst dL_mortar_22 ?_
      refine zA_iret dL_mortar_23 rfl ?_
      exact zWq_x (by decide) (by decide) hd2 hsp hkk
    · exact absurd rfl h0
set_option maxRecDepth 100000 in
set_option maxHeartbeats 4000000 in
theorem w_weak {l : Launch} {n t dr tx : Nat} {w : zW} {p0 p1 p2 p3 : Int} (hp : zPr l n mX11_weak mX12_weak 1 2 false [zI p0, zI p1, zI p2, zI p3] t dr tx w) : zSp l mL_weak false 15 3 18 [zR 0, zI p0, zI p1, zI p2, zI p3, zR 121] (ZZ t dr tx) w (zWq l n mX12_weak false [zI p0, zI p1, zI p2, zI p3]) zNo := by
  obtain ⟨d, bc, bs, Q, X, ⟨hd, hbc, hbs⟩, hs, hret, hthr⟩ := hp
  refine zA_intro ⟨plainFor_of_name (by decide +kernel), Or.inl (by decide +kernel)⟩ rfl (Nat.le_of_ble_eq_true rfl) ?_
  show zA l mL_weak false 15 3 18 (zWq l n mX12_weak false [zI p0, zI p1, zI p2, zI p3]) zNo 0 [zR 0, zI p0, zI p1, zI p2, zI p3, zR 121, .null] [] (ZZ t dr tx) w
  refine zA_aload dL_weak_0 rfl ?_
  refine zA_iconst dL_weak_2 ?_
  refine zA_aload_n dL_weak_3 rfl ?_
  refine zA_iload_n dL_weak_4 rfl ?_
  refine zA_iload_n dL_weak_5 rfl ?_
  refine zA_iload_n dL_weak_6 rfl ?_
  refine zA_iload dL_weak_7 rfl ?_
  refine zA_callVX (st := [zI 0, zR 121]) (bc2 := 3 - bc) (bs2 := 18 - bs) dL_weak_9 vX11_weak kL_83 hs (by omega) rfl rfl (Nat.le_of_ble_eq_true rfl) c0 rfl ⟨by omega, by omega⟩ (fun v S1 w1 hq => ?_) (fun E S1 w1 hx => ?_)
  · have h1 := hret v S1 w1 hq
    obtain ⟨⟨t1, dr1, tx1, rfl⟩, hv, -⟩ := h1 w1 (fun _ _ _ => rfl)
    obtain ⟨z0, rfl⟩ : ∃ z, v = some (zI z) := hv
    obtain ⟨z, hz, hzr⟩ := zI_in z0
    show zA l mL_weak false 15 (3 - bc) (18 - bs) (zWq l n mX12_weak false [zI p0, zI p1, zI p2, zI p3]) zNo 12 [zR 0, zI p0, zI p1, zI p2, zI p3, zR 121, .null] [zI z0, zI 0, zR 121] (ZZ t1 dr1 tx1) w1
    rw [hz]
    refine zA_i2l dL_weak_12 hzr ?_
    refine zA_lastore dL_weak_13 rfl hzr c121 (by decide) (by decide) (by decide) ?_
    refine zA_goto (tgt := 25) dL_weak_14 (by decide) ?_
    refine zA_iconst dL_weak_25 ?_
    refine zA_iret dL_weak_26 rfl ?_
    obtain ⟨-, -, d2, Q2, hd2, hsp, hk⟩ := h1 (up w1 121 0 z) (fun c x hc => up_n (Or.inl hc))
    exact zWq_r hz hzr rfl (up_same _ _ _ _) hd2 hsp hk
  · obtain ⟨k, hk, ⟨t1, dr1, tx1, rfl⟩, d2, Q2, hd2, hsp, hkk⟩ := hthr E S1 w1 hx
    rcases hk with ⟨rfl, rfl, h0⟩ | ⟨rfl, rfl, h0⟩
    · refine zHn_1 (tl := [(0, 14, 21, 13)]) (lo1 := [zR 0, zI p0, zI p1, zI p2, zI p3, zR 121, .null]) rfl (by decide) (by decide) zlk_NSE (List.mem_cons_of_mem _ List.mem_cons_self) dL_weak_17 (by decide) rfl rfl ?_
      refine zA_iconst dL_weak_19 ?_
      refine zA_iret dL_weak_20 rfl ?_
      exact zWq_x (by decide) (by decide) hd2 hsp hkk
    · refine zHn_2 (tl := []) (lo1 := [zR 0, zI p0, zI p1, zI p2, zI p3, zR 121, .null]) rfl (by decide) zlk_NSE (by decide) (by decide) zlk_IAE dL_weak_21 (by decide) rfl rfl ?_
      refine zA_iconst dL_weak_23 ?_
      refine zA_iret dL_weak_24 rfl ?_
      exact zWq_x (by decide) (by decide) hd2 hsp hkk
set_option maxRecDepth 100000 in
set_option maxHeartbeats 4000000 in
theorem w_lasts {l : Launch} {n t dr tx : Nat} {w : zW} {p0 p1 p2 : Int} (hp : zPr l n mX11_lasts mX12_lasts 1 2 false [zI p0, zI p1, zI p2] t dr tx w) : zSp l mL_lasts false 15 3 18 [zR 0, zI p0, zI p1, zI p2, zR 121] (ZZ t dr tx) w (zWq l n mX12_lasts false [zI p0, zI p1, zI p2]) zNo := by
  obtain ⟨d, bc, bs, Q, X, ⟨hd, hbc, hbs⟩, hs, hret, hthr⟩ := hp
  refine zA_intro ⟨plainFor_of_name (by decide +kernel), Or.inl (by decide +kernel)⟩ rfl (Nat.le_of_ble_eq_true rfl) ?_
  show zA l mL_lasts false 15 3 18 (zWq l n mX12_lasts false [zI p0, zI p1, zI p2]) zNo 0 [zR 0, zI p0, zI p1, zI p2, zR 121, .null] [] (ZZ t dr tx) w
  refine zA_aload dL_lasts_0 rfl ?_
  refine zA_iconst dL_lasts_2 ?_
  refine zA_aload_n dL_lasts_3 rfl ?_
  refine zA_iload_n dL_lasts_4 rfl ?_
  refine zA_iload_n dL_lasts_5 rfl ?_
  refine zA_iload_n dL_lasts_6 rfl ?_
  refine zA_callVX (st := [zI 0, zR 121]) (bc2 := 3 - bc) (bs2 := 18 - bs) dL_lasts_7 vX11_lasts kL_86 hs (by omega) rfl rfl (Nat.le_of_ble_eq_true rfl) c0 rfl ⟨by omega, by omega⟩ (fun v S1 w1 hq => ?_) (fun E S1 w1 hx => ?_)
  · have h1 := hret v S1 w1 hq
    obtain ⟨⟨t1, dr1, tx1, rfl⟩, hv, -⟩ := h1 w1 (fun _ _ _ => rfl)
    obtain ⟨z0, rfl⟩ : ∃ z, v = some (zI z) := hv
    obtain ⟨z, hz, hzr⟩ := zI_in z0
    show zA l mL_lasts false 15 (3 - bc) (18 - bs) (zWq l n mX12_lasts false [zI p0, zI p1, zI p2]) zNo 10 [zR 0, zI p0, zI p1, zI p2, zR 121, .null] [zI z0, zI 0, zR 121] (ZZ t1 dr1 tx1) w1
    rw [hz]
    refine zA_i2l dL_lasts_10 hzr ?_
    refine zA_lastore dL_lasts_11 rfl hzr c121 (by decide) (by decide) (by decide) ?_
    refine zA_goto (tgt := 23) dL_lasts_12 (by decide) ?_
    refine zA_iconst dL_lasts_23 ?_
    refine zA_iret dL_lasts_24 rfl ?_
    obtain ⟨-, -, d2, Q2, hd2, hsp, hk⟩ := h1 (up w1 121 0 z) (fun c x hc => up_n (Or.inl hc))
    exact zWq_r hz hzr rfl (up_same _ _ _ _) hd2 hsp hk
  · obtain ⟨k, hk, ⟨t1, dr1, tx1, rfl⟩, d2, Q2, hd2, hsp, hkk⟩ := hthr E S1 w1 hx
    rcases hk with ⟨rfl, rfl, h0⟩ | ⟨rfl, rfl, h0⟩
    · refine zHn_1 (tl := [(0, 12, 19, 13)]) (lo1 := [zR 0, zI p0, zI p1, zI p2, zR 121, .null]) rfl (by decide) (by decide) zlk_NSE (List.mem_cons_of_mem _ List.mem_cons_self) dL_lasts_15 (by decide) rfl rfl ?_
      refine zA_iconst dL_lasts_17 ?_
      refine zA_iret dL_lasts_18 rfl ?_
      exact zWq_x (by decide) (by decide) hd2 hsp hkk
    · refine zHn_2 (tl := []) (lo1 := [zR 0, zI p0, zI p1, zI p2, zR 121, .null]) rfl (by decide) zlk_NSE (by decide) (by decide) zlk_IAE dL_lasts_19 (by decide) rfl rfl ?_
      refine zA_iconst dL_lasts_21 ?_
      refine zA_iret dL_lasts_22 rfl ?_
      exact zWq_x (by decide) (by decide) hd2 hsp hkk
set_option maxRecDepth 100000 in
set_option maxHeartbeats 4000000 in
theorem w_bands {l : Launch} {n t dr tx : Nat} {w : zW} {p0 p1 p2 p3 : Int} (hp : zPr l n mX11_bands mX12_bands 1 2 false [zI p0, zI p1, zI p2, zI p3] t dr tx w) : zSp l mL_bands false 15 3 18 [zR 0, zI p0, zI p1, zI p2, zI p3, zR 121] (ZZ t dr tx) w (zWq l n mX12_bands false [zI p0, zI p1, zI p2, zI p3]) zNo := by
  obtain ⟨d, bc, bs, Q, X, ⟨hd, hbc, hbs⟩, hs, hret, hthr⟩ := hp
  refine zA_intro ⟨plainFor_of_name (by decide +kernel), Or.inl (by decide +kernel)⟩ rfl (Nat.le_of_ble_eq_true rfl) ?_
  show zA l mL_bands false 15 3 18 (zWq l n mX12_bands false [zI p0, zI p1, zI p2, zI p3]) zNo 0 [zR 0, zI p0, zI p1, zI p2, zI p3, zR 121, .null] [] (ZZ t dr tx) w
  refine zA_aload dL_bands_0 rfl ?_
  refine zA_iconst dL_bands_2 ?_
  refine zA_aload_n dL_bands_3 rfl ?_
  refine zA_iload_n dL_bands_4 rfl ?_
  refine zA_iload_n dL_bands_5 rfl ?_
  refine zA_iload_n dL_bands_6 rfl ?_
  refine zA_iload dL_bands_7 rfl ?_
  refine zA_callVX (st := [zI 0, zR 121]) (bc2 := 3 - bc) (bs2 := 18 - bs) dL_bands_9 vX11_bands kL_89 hs (by omega) rfl rfl (Nat.le_of_ble_eq_true rfl) c0 rfl ⟨by omega, by omega⟩ (fun v S1 w1 hq => ?_) (fun E S1 w1 hx => ?_)
  · have h1 := hret v S1 w1 hq
    obtain ⟨⟨t1, dr1, tx1, rfl⟩, hv, -⟩ := h1 w1 (fun _ _ _ => rfl)
    obtain ⟨z0, rfl⟩ : ∃ z, v = some (zI z) := hv
    obtain ⟨z, hz, hzr⟩ := zI_in z0
    show zA l mL_bands false 15 (3 - bc) (18 - bs) (zWq l n mX12_bands false [zI p0, zI p1, zI p2, zI p3]) zNo 12 [zR 0, zI p0, zI p1, zI p2, zI p3, zR 121, .null] [zI z0, zI 0, zR 121] (ZZ t1 dr1 tx1) w1
    rw [hz]
    refine zA_i2l dL_bands_12 hzr ?_
    refine zA_lastore dL_bands_13 rfl hzr c121 (by decide) (by decide) (by decide) ?_
    refine zA_goto (tgt := 25) dL_bands_14 (by decide) ?_
    refine zA_iconst dL_bands_25 ?_
    refine zA_iret dL_bands_26 rfl ?_
    obtain ⟨-, -, d2, Q2, hd2, hsp, hk⟩ := h1 (up w1 121 0 z) (fun c x hc => up_n (Or.inl hc))
    exact zWq_r hz hzr rfl (up_same _ _ _ _) hd2 hsp hk
  · obtain ⟨k, hk, ⟨t1, dr1, tx1, rfl⟩, d2, Q2, hd2, hsp, hkk⟩ := hthr E S1 w1 hx
    rcases hk with ⟨rfl, rfl, h0⟩ | ⟨rfl, rfl, h0⟩
    · refine zHn_1 (tl := [(0, 14, 21, 13)]) (lo1 := [zR 0, zI p0, zI p1, zI p2, zI p3, zR 121, .null]) rfl (by decide) (by decide) zlk_NSE (List.mem_cons_of_mem _ List.mem_cons_self) dL_bands_17 (by decide) rfl rfl ?_
      refine zA_iconst dL_bands_19 ?_
      refine zA_iret dL_bands_20 rfl ?_
      exact zWq_x (by decide) (by decide) hd2 hsp hkk
    · refine zHn_2 (tl := []) (lo1 := [zR 0, zI p0, zI p1, zI p2, zI p3, zR 121, .null]) rfl (by decide) zlk_NSE (by decide) (by decide) zlk_IAE dL_bands_21 (by decide) rfl rfl ?_
      refine zA_iconst dL_bands_23 ?_
      refine zA_iret dL_bands_24 rfl ?_
      exact zWq_x (by decide) (by decide) hd2 hsp hkk
set_option maxRecDepth 100000 in
set_option maxHeartbeats 4000000 in
theorem w_risk {l : Launch} {n t dr tx : Nat} {w : zW} {p0 p1 p2 : Int} (hp : zPr l n mX11_risk mX12_risk 1 0 false [zI p0, zI p1, zI p2] t dr tx w) : zSp l mL_risk false 15 3 18 [zR 0, zI p0, zI p1, zI p2, zR 121] (ZZ t dr tx) w (zWq l n mX12_risk true [zI p0, zI p1, zI p2]) zNo := by
  obtain ⟨d, bc, bs, Q, X, ⟨hd, hbc, hbs⟩, hs, hret, hthr⟩ := hp
  refine zA_intro ⟨plainFor_of_name (by decide +kernel), Or.inl (by decide +kernel)⟩ rfl (Nat.le_of_ble_eq_true rfl) ?_
  show zA l mL_risk false 15 3 18 (zWq l n mX12_risk true [zI p0, zI p1, zI p2]) zNo 0 [zR 0, zI p0, zI p1, zI p2, zR 121, .null] [] (ZZ t dr tx) w
  refine zA_aload dL_risk_0 rfl ?_
  refine zA_iconst dL_risk_2 ?_
  refine zA_aload_n dL_risk_3 rfl ?_
  refine zA_iload_n dL_risk_4 rfl ?_
  refine zA_iload_n dL_risk_5 rfl ?_
  refine zA_iload_n dL_risk_6 rfl ?_
  refine zA_callVX (st := [zI 0, zR 121]) (bc2 := 3 - bc) (bs2 := 18 - bs) dL_risk_7 vX11_risk kL_92 hs (by omega) rfl rfl (Nat.le_of_ble_eq_true rfl) c0 rfl ⟨by omega, by omega⟩ (fun v S1 w1 hq => ?_) (fun E S1 w1 hx => ?_)
  · have h1 := hret v S1 w1 hq
    obtain ⟨⟨t1, dr1, tx1, rfl⟩, hv, -⟩ := h1 w1 (fun _ _ _ => rfl)
    obtain ⟨z0, rfl⟩ : ∃ z, v = some (zI z) := hv
    obtain ⟨z, hz, hzr⟩ := zI_in z0
    show zA l mL_risk false 15 (3 - bc) (18 - bs) (zWq l n mX12_risk true [zI p0, zI p1, zI p2]) zNo 10 [zR 0, zI p0, zI p1, zI p2, zR 121, .null] [zI z0, zI 0, zR 121] (ZZ t1 dr1 tx1) w1
    rw [hz]
    refine zA_if_eq (tgt := 17) dL_risk_10 (by decide) hzr (fun hz0 => ?_) (fun hz0 => ?_)
    · refine zA_lconst dL_risk_17 ?_
      refine zA_lastore dL_risk_18 rfl ⟨by decide, by decide⟩ c121 (by decide) (by decide) (by decide) ?_
      refine zA_goto (tgt := 26) dL_risk_19 (by decide) ?_
      refine zA_iconst dL_risk_26 ?_
      refine zA_iret dL_risk_27 rfl ?_
      obtain ⟨-, -, d2, Q2, hd2, hsp, hk⟩ := h1 (up w1 121 0 0) (fun c x hc => up_n (Or.inl hc))
      exact zWq_r hz hzr (by rw [if_pos rfl, if_pos hz0]; rfl) (up_same _ _ _ _) hd2 hsp hk
    · refine zA_lconst dL_risk_13 ?_
      refine zA_goto (tgt := 18) dL_risk_14 (by decide) ?_
      refine zA_lastore dL_risk_18 rfl ⟨by decide, by decide⟩ c121 (by decide) (by decide) (by decide) ?_
      refine zA_goto (tgt := 26) dL_risk_19 (by decide) ?_
      refine zA_iconst dL_risk_26 ?_
      refine zA_iret dL_risk_27 rfl ?_
      obtain ⟨-, -, d2, Q2, hd2, hsp, hk⟩ := h1 (up w1 121 0 1) (fun c x hc => up_n (Or.inl hc))
      exact zWq_r hz hzr (by rw [if_pos rfl, if_neg hz0]; rfl) (up_same _ _ _ _) hd2 hsp hk
  · obtain ⟨k, hk, ⟨t1, dr1, tx1, rfl⟩, d2, Q2, hd2, hsp, hkk⟩ := hthr E S1 w1 hx
    rcases hk with ⟨rfl, rfl, h0⟩ | ⟨rfl, rfl, h0⟩
    · refine zHn_1 (tl := []) (lo1 := [zR 0, zI p0, zI p1, zI p2, zR 121, .null]) rfl (by decide) (by decide) zlk_NSE (List.mem_cons_of_mem _ List.mem_cons_self) dL_risk_22 (by decide) rfl rfl ?_
      refine zA_iconst dL_risk_24 ?_
      refine zA_iret dL_risk_25 rfl ?_
      exact zWq_x (by decide) (by decide) hd2 hsp hkk
    · exact absurd rfl h0
set_option maxRecDepth 100000 in
set_option maxHeartbeats 4000000 in
theorem w_ordered {l : Launch} {n t dr tx : Nat} {w : zW} {p0 : Int} (hp : zPr l n mX11_ordered mX12_ordered 1 0 false [zI p0] t dr tx w) : zSp l mL_ordered false 15 3 18 [zR 0, zI p0, zR 121] (ZZ t dr tx) w (zWq l n mX12_ordered false [zI p0]) zNo := by
  obtain ⟨d, bc, bs, Q, X, ⟨hd, hbc, hbs⟩, hs, hret, hthr⟩ := hp
  refine zA_intro ⟨plainFor_of_name (by decide +kernel), Or.inl (by decide +kernel)⟩ rfl (Nat.le_of_ble_eq_true rfl) ?_
  show zA l mL_ordered false 15 3 18 (zWq l n mX12_ordered false [zI p0]) zNo 0 [zR 0, zI p0, zR 121, .null] [] (ZZ t dr tx) w
  refine zA_aload_n dL_ordered_0 rfl ?_
  refine zA_iconst dL_ordered_1 ?_
  refine zA_aload_n dL_ordered_2 rfl ?_
  refine zA_iload_n dL_ordered_3 rfl ?_
  refine zA_callVX (st := [zI 0, zR 121]) (bc2 := 3 - bc) (bs2 := 18 - bs) dL_ordered_4 vX11_ordered kL_95 hs (by omega) rfl rfl (Nat.le_of_ble_eq_true rfl) c0 rfl ⟨by omega, by omega⟩ (fun v S1 w1 hq => ?_) (fun E S1 w1 hx => ?_)
  · have h1 := hret v S1 w1 hq
    obtain ⟨⟨t1, dr1, tx1, rfl⟩, hv, -⟩ := h1 w1 (fun _ _ _ => rfl)
    obtain ⟨z0, rfl⟩ : ∃ z, v = some (zI z) := hv
    obtain ⟨z, hz, hzr⟩ := zI_in z0
    show zA l mL_ordered false 15 (3 - bc) (18 - bs) (zWq l n mX12_ordered false [zI p0]) zNo 7 [zR 0, zI p0, zR 121, .null] [zI z0, zI 0, zR 121] (ZZ t1 dr1 tx1) w1
    rw [hz]
    refine zA_i2l dL_ordered_7 hzr ?_
    refine zA_lastore dL_ordered_8 rfl hzr c121 (by decide) (by decide) (by decide) ?_
    refine zA_goto (tgt := 15) dL_ordered_9 (by decide) ?_
    refine zA_iconst dL_ordered_15 ?_
    refine zA_iret dL_ordered_16 rfl ?_
    obtain ⟨-, -, d2, Q2, hd2, hsp, hk⟩ := h1 (up w1 121 0 z) (fun c x hc => up_n (Or.inl hc))
    exact zWq_r hz hzr rfl (up_same _ _ _ _) hd2 hsp hk
  · obtain ⟨k, hk, ⟨t1, dr1, tx1, rfl⟩, d2, Q2, hd2, hsp, hkk⟩ := hthr E S1 w1 hx
    rcases hk with ⟨rfl, rfl, h0⟩ | ⟨rfl, rfl, h0⟩
    · refine zHn_1n (tl := []) (lo1 := [zR 0, zI p0, zR 121, .null]) rfl (by decide) (by decide) zlk_NSE (List.mem_cons_of_mem _ List.mem_cons_self) dL_ordered_12 (by decide) rfl rfl ?_
      refine zA_iconst dL_ordered_13 ?_
      refine zA_iret dL_ordered_14 rfl ?_
      exact zWq_x (by decide) (by decide) hd2 hsp hkk
    · exact absurd rfl h0
set_option maxRecDepth 100000 in
set_option maxHeartbeats 4000000 in
theorem w_ladders {l : Launch} {n t dr tx : Nat} {w : zW} {p0 p1 : Int} (hp : zPr l n mX11_ladders mX12_ladders 1 2 false [zI p0, zI p1] t dr tx w) : zSp l mL_ladders false 15 3 18 [zR 0, zI p0, zI p1, zR 121] (ZZ t dr tx) w (zWq l n mX12_ladders false [zI p0, zI p1]) zNo := by
  obtain ⟨d, bc, bs, Q, X, ⟨hd, hbc, hbs⟩, hs, hret, hthr⟩ := hp
  refine zA_intro ⟨plainFor_of_name (by decide +kernel), Or.inl (by decide +kernel)⟩ rfl (Nat.le_of_ble_eq_true rfl) ?_
  show zA l mL_ladders false 15 3 18 (zWq l n mX12_ladders false [zI p0, zI p1]) zNo 0 [zR 0, zI p0, zI p1, zR 121, .null] [] (ZZ t dr tx) w
  refine zA_aload_n dL_ladders_0 rfl ?_
  refine zA_iconst dL_ladders_1 ?_
  refine zA_aload_n dL_ladders_2 rfl ?_
  refine zA_iload_n dL_ladders_3 rfl ?_
  refine zA_iload_n dL_ladders_4 rfl ?_
  refine zA_callVX (st := [zI 0, zR 121]) (bc2 := 3 - bc) (bs2 := 18 - bs) dL_ladders_5 vX11_ladders kL_98 hs (by omega) rfl rfl (Nat.le_of_ble_eq_true rfl) c0 rfl ⟨by omega, by omega⟩ (fun v S1 w1 hq => ?_) (fun E S1 w1 hx => ?_)
  · have h1 := hret v S1 w1 hq
    obtain ⟨⟨t1, dr1, tx1, rfl⟩, hv, -⟩ := h1 w1 (fun _ _ _ => rfl)
    obtain ⟨z0, rfl⟩ : ∃ z, v = some (zI z) := hv
    obtain ⟨z, hz, hzr⟩ := zI_in z0
    show zA l mL_ladders false 15 (3 - bc) (18 - bs) (zWq l n mX12_ladders false [zI p0, zI p1]) zNo 8 [zR 0, zI p0, zI p1, zR 121, .null] [zI z0, zI 0, zR 121] (ZZ t1 dr1 tx1) w1
    rw [hz]
    refine zA_i2l dL_ladders_8 hzr ?_
    refine zA_lastore dL_ladders_9 rfl hzr c121 (by decide) (by decide) (by decide) ?_
    refine zA_goto (tgt := 21) dL_ladders_10 (by decide) ?_
    refine zA_iconst dL_ladders_21 ?_
    refine zA_iret dL_ladders_22 rfl ?_
    obtain ⟨-, -, d2, Q2, hd2, hsp, hk⟩ := h1 (up w1 121 0 z) (fun c x hc => up_n (Or.inl hc))
    exact zWq_r hz hzr rfl (up_same _ _ _ _) hd2 hsp hk
  · obtain ⟨k, hk, ⟨t1, dr1, tx1, rfl⟩, d2, Q2, hd2, hsp, hkk⟩ := hthr E S1 w1 hx
    rcases hk with ⟨rfl, rfl, h0⟩ | ⟨rfl, rfl, h0⟩
    · refine zHn_1 (tl := [(0, 10, 17, 13)]) (lo1 := [zR 0, zI p0, zI p1, zR 121, .null]) rfl (by decide) (by decide) zlk_NSE (List.mem_cons_of_mem _ List.mem_cons_self) dL_ladders_13 (by decide) rfl rfl ?_
      refine zA_iconst dL_ladders_15 ?_
      refine zA_iret dL_ladders_16 rfl ?_
      exact zWq_x (by decide) (by decide) hd2 hsp hkk
    · refine zHn_2 (tl := []) (lo1 := [zR 0, zI p0, zI p1, zR 121, .null]) rfl (by decide) zlk_NSE (by decide) (by decide) zlk_IAE dL_ladders_17 (by decide) rfl rfl ?_
      refine zA_iconst dL_ladders_19 ?_
      refine zA_iret dL_ladders_20 rfl ?_
      exact zWq_x (by decide) (by decide) hd2 hsp hkk
set_option maxRecDepth 100000 in
set_option maxHeartbeats 4000000 in
theorem w_out {l : Launch} {n t dr tx : Nat} {w : zW} {p0 p1 : Int} (hp : zPr l n mX11_out mX12_out 0 1 false [zI p0, zI p1] t dr tx w) : zSp l mL_out false 15 3 18 [zR 0, zI p0, zI p1, zR 121] (ZZ t dr tx) w (zWq l n mX12_out false [zI p0, zI p1]) zNo := by
  obtain ⟨d, bc, bs, Q, X, ⟨hd, hbc, hbs⟩, hs, hret, hthr⟩ := hp
  refine zA_intro ⟨plainFor_of_name (by decide +kernel), Or.inl (by decide +kernel)⟩ rfl (Nat.le_of_ble_eq_true rfl) ?_
  show zA l mL_out false 15 3 18 (zWq l n mX12_out false [zI p0, zI p1]) zNo 0 [zR 0, zI p0, zI p1, zR 121, .null] [] (ZZ t dr tx) w
  refine zA_aload_n dL_out_0 rfl ?_
  refine zA_iconst dL_out_1 ?_
  refine zA_aload_n dL_out_2 rfl ?_
  refine zA_iload_n dL_out_3 rfl ?_
  refine zA_iload_n dL_out_4 rfl ?_
  refine zA_callVX (st := [zI 0, zR 121]) (bc2 := 3 - bc) (bs2 := 18 - bs) dL_out_5 vX11_out kL_101 hs (by omega) rfl rfl (Nat.le_of_ble_eq_true rfl) c0 rfl ⟨by omega, by omega⟩ (fun v S1 w1 hq => ?_) (fun E S1 w1 hx => ?_)
  · have h1 := hret v S1 w1 hq
    obtain ⟨⟨t1, dr1, tx1, rfl⟩, hv, -⟩ := h1 w1 (fun _ _ _ => rfl)
    obtain ⟨z0, rfl⟩ : ∃ z, v = some (zI z) := hv
    obtain ⟨z, hz, hzr⟩ := zI_in z0
    show zA l mL_out false 15 (3 - bc) (18 - bs) (zWq l n mX12_out false [zI p0, zI p1]) zNo 8 [zR 0, zI p0, zI p1, zR 121, .null] [zI z0, zI 0, zR 121] (ZZ t1 dr1 tx1) w1
    rw [hz]
    refine zA_i2l dL_out_8 hzr ?_
    refine zA_lastore dL_out_9 rfl hzr c121 (by decide) (by decide) (by decide) ?_
    refine zA_goto (tgt := 17) dL_out_10 (by decide) ?_
    refine zA_iconst dL_out_17 ?_
    refine zA_iret dL_out_18 rfl ?_
    obtain ⟨-, -, d2, Q2, hd2, hsp, hk⟩ := h1 (up w1 121 0 z) (fun c x hc => up_n (Or.inl hc))
    exact zWq_r hz hzr rfl (up_same _ _ _ _) hd2 hsp hk
  · obtain ⟨k, hk, ⟨t1, dr1, tx1, rfl⟩, d2, Q2, hd2, hsp, hkk⟩ := hthr E S1 w1 hx
    rcases hk with ⟨rfl, rfl, h0⟩ | ⟨rfl, rfl, h0⟩
    · exact absurd rfl h0
    · refine zHn_1 (tl := []) (lo1 := [zR 0, zI p0, zI p1, zR 121, .null]) rfl (by decide) (by decide) zlk_IAE (List.mem_cons_self) dL_out_13 (by decide) rfl rfl ?_
      refine zA_iconst dL_out_15 ?_
      refine zA_iret dL_out_16 rfl ?_
      exact zWq_x (by decide) (by decide) hd2 hsp hkk
set_option maxRecDepth 100000 in
set_option maxHeartbeats 4000000 in
theorem w_gang {l : Launch} {n t dr tx : Nat} {w : zW} {p0 : Int} (hp : zPr l n mX11_gang mX12_gang 1 0 false [zI p0] t dr tx w) : zSp l mL_gang false 15 3 18 [zR 0, zI p0, zR 121] (ZZ t dr tx) w (zWq l n mX12_gang false [zI p0]) zNo := by
  obtain ⟨d, bc, bs, Q, X, ⟨hd, hbc, hbs⟩, hs, hret, hthr⟩ := hp
  refine zA_intro ⟨plainFor_of_name (by decide +kernel), Or.inl (by decide +kernel)⟩ rfl (Nat.le_of_ble_eq_true rfl) ?_
  show zA l mL_gang false 15 3 18 (zWq l n mX12_gang false [zI p0]) zNo 0 [zR 0, zI p0, zR 121, .null] [] (ZZ t dr tx) w
  refine zA_aload_n dL_gang_0 rfl ?_
  refine zA_iconst dL_gang_1 ?_
  refine zA_aload_n dL_gang_2 rfl ?_
  refine zA_iload_n dL_gang_3 rfl ?_
  refine zA_callVX (st := [zI 0, zR 121]) (bc2 := 3 - bc) (bs2 := 18 - bs) dL_gang_4 vX11_gang kL_104 hs (by omega) rfl rfl (Nat.le_of_ble_eq_true rfl) c0 rfl ⟨by omega, by omega⟩ (fun v S1 w1 hq => ?_) (fun E S1 w1 hx => ?_)
  · have h1 := hret v S1 w1 hq
    obtain ⟨⟨t1, dr1, tx1, rfl⟩, hv, -⟩ := h1 w1 (fun _ _ _ => rfl)
    obtain ⟨z0, rfl⟩ : ∃ z, v = some (zI z) := hv
    obtain ⟨z, hz, hzr⟩ := zI_in z0
    show zA l mL_gang false 15 (3 - bc) (18 - bs) (zWq l n mX12_gang false [zI p0]) zNo 7 [zR 0, zI p0, zR 121, .null] [zI z0, zI 0, zR 121] (ZZ t1 dr1 tx1) w1
    rw [hz]
    refine zA_i2l dL_gang_7 hzr ?_
    refine zA_lastore dL_gang_8 rfl hzr c121 (by decide) (by decide) (by decide) ?_
    refine zA_goto (tgt := 15) dL_gang_9 (by decide) ?_
    refine zA_iconst dL_gang_15 ?_
    refine zA_iret dL_gang_16 rfl ?_
    obtain ⟨-, -, d2, Q2, hd2, hsp, hk⟩ := h1 (up w1 121 0 z) (fun c x hc => up_n (Or.inl hc))
    exact zWq_r hz hzr rfl (up_same _ _ _ _) hd2 hsp hk
  · obtain ⟨k, hk, ⟨t1, dr1, tx1, rfl⟩, d2, Q2, hd2, hsp, hkk⟩ := hthr E S1 w1 hx
    rcases hk with ⟨rfl, rfl, h0⟩ | ⟨rfl, rfl, h0⟩
    · refine zHn_1n (tl := []) (lo1 := [zR 0, zI p0, zR 121, .null]) rfl (by decide) (by decide) zlk_NSE (List.mem_cons_of_mem _ List.mem_cons_self) dL_gang_12 (by decide) rfl rfl ?_
      refine zA_iconst dL_gang_13 ?_
      refine zA_iret dL_gang_14 rfl ?_
      exact zWq_x (by decide) (by decide) hd2 hsp hkk
    · exact absurd rfl h0
set_option maxRecDepth 100000 in
set_option maxHeartbeats 4000000 in
theorem w_means {l : Launch} {n t dr tx : Nat} {w : zW} {p0 p1 : Int} (hp : zPr l n mX11_means mX12_means 1 0 false [zI p0, zI p1] t dr tx w) : zSp l mL_means false 15 3 18 [zR 0, zI p0, zI p1, zR 121] (ZZ t dr tx) w (zWq l n mX12_means true [zI p0, zI p1]) zNo := by
  obtain ⟨d, bc, bs, Q, X, ⟨hd, hbc, hbs⟩, hs, hret, hthr⟩ := hp
  refine zA_intro ⟨plainFor_of_name (by decide +kernel), Or.inl (by decide +kernel)⟩ rfl (Nat.le_of_ble_eq_true rfl) ?_
  show zA l mL_means false 15 3 18 (zWq l n mX12_means true [zI p0, zI p1]) zNo 0 [zR 0, zI p0, zI p1, zR 121, .null] [] (ZZ t dr tx) w
  refine zA_aload_n dL_means_0 rfl ?_
  refine zA_iconst dL_means_1 ?_
  refine zA_aload_n dL_means_2 rfl ?_
  refine zA_iload_n dL_means_3 rfl ?_
  refine zA_iload_n dL_means_4 rfl ?_
  refine zA_callVX (st := [zI 0, zR 121]) (bc2 := 3 - bc) (bs2 := 18 - bs) dL_means_5 vX11_means kL_107 hs (by omega) rfl rfl (Nat.le_of_ble_eq_true rfl) c0 rfl ⟨by omega, by omega⟩ (fun v S1 w1 hq => ?_) (fun E S1 w1 hx => ?_)
  · have h1 := hret v S1 w1 hq
    obtain ⟨⟨t1, dr1, tx1, rfl⟩, hv, -⟩ := h1 w1 (fun _ _ _ => rfl)
    obtain ⟨z0, rfl⟩ : ∃ z, v = some (zI z) := hv
    obtain ⟨z, hz, hzr⟩ := zI_in z0
    show zA l mL_means false 15 (3 - bc) (18 - bs) (zWq l n mX12_means true [zI p0, zI p1]) zNo 8 [zR 0, zI p0, zI p1, zR 121, .null] [zI z0, zI 0, zR 121] (ZZ t1 dr1 tx1) w1
    rw [hz]
    refine zA_if_eq (tgt := 15) dL_means_8 (by decide) hzr (fun hz0 => ?_) (fun hz0 => ?_)
    · refine zA_lconst dL_means_15 ?_
      refine zA_lastore dL_means_16 rfl ⟨by decide, by decide⟩ c121 (by decide) (by decide) (by decide) ?_
      refine zA_goto (tgt := 24) dL_means_17 (by decide) ?_
      refine zA_iconst dL_means_24 ?_
      refine zA_iret dL_means_25 rfl ?_
      obtain ⟨-, -, d2, Q2, hd2, hsp, hk⟩ := h1 (up w1 121 0 0) (fun c x hc => up_n (Or.inl hc))
      exact zWq_r hz hzr (by rw [if_pos rfl, if_pos hz0]; rfl) (up_same _ _ _ _) hd2 hsp hk
    · refine zA_lconst dL_means_11 ?_
      refine zA_goto (tgt := 16) dL_means_12 (by decide) ?_
      refine zA_lastore dL_means_16 rfl ⟨by decide, by decide⟩ c121 (by decide) (by decide) (by decide) ?_
      refine zA_goto (tgt := 24) dL_means_17 (by decide) ?_
      refine zA_iconst dL_means_24 ?_
      refine zA_iret dL_means_25 rfl ?_
      obtain ⟨-, -, d2, Q2, hd2, hsp, hk⟩ := h1 (up w1 121 0 1) (fun c x hc => up_n (Or.inl hc))
      exact zWq_r hz hzr (by rw [if_pos rfl, if_neg hz0]; rfl) (up_same _ _ _ _) hd2 hsp hk
  · obtain ⟨k, hk, ⟨t1, dr1, tx1, rfl⟩, d2, Q2, hd2, hsp, hkk⟩ := hthr E S1 w1 hx
    rcases hk with ⟨rfl, rfl, h0⟩ | ⟨rfl, rfl, h0⟩
    · refine zHn_1 (tl := []) (lo1 := [zR 0, zI p0, zI p1, zR 121, .null]) rfl (by decide) (by decide) zlk_NSE (List.mem_cons_of_mem _ List.mem_cons_self) dL_means_20 (by decide) rfl rfl ?_
      refine zA_iconst dL_means_22 ?_
      refine zA_iret dL_means_23 rfl ?_
      exact zWq_x (by decide) (by decide) hd2 hsp hkk
    · exact absurd rfl h0
set_option maxRecDepth 100000 in
set_option maxHeartbeats 4000000 in
theorem w_part {l : Launch} {n t dr tx : Nat} {w : zW} {p0 p1 p2 : Int} (hp : zPr l n mX11_part mX12_part 1 0 false [zI p0, zI p1, zI p2] t dr tx w) : zSp l mL_part false 15 3 18 [zR 0, zI p0, zI p1, zI p2, zR 121] (ZZ t dr tx) w (zWq l n mX12_part true [zI p0, zI p1, zI p2]) zNo := by
  obtain ⟨d, bc, bs, Q, X, ⟨hd, hbc, hbs⟩, hs, hret, hthr⟩ := hp
  refine zA_intro ⟨plainFor_of_name (by decide +kernel), Or.inl (by decide +kernel)⟩ rfl (Nat.le_of_ble_eq_true rfl) ?_
  show zA l mL_part false 15 3 18 (zWq l n mX12_part true [zI p0, zI p1, zI p2]) zNo 0 [zR 0, zI p0, zI p1, zI p2, zR 121, .null] [] (ZZ t dr tx) w
  refine zA_aload dL_part_0 rfl ?_
  refine zA_iconst dL_part_2 ?_
  refine zA_aload_n dL_part_3 rfl ?_
  refine zA_iload_n dL_part_4 rfl ?_
  refine zA_iload_n dL_part_5 rfl ?_
  refine zA_iload_n dL_part_6 rfl ?_
  refine zA_callVX (st := [zI 0, zR 121]) (bc2 := 3 - bc) (bs2 := 18 - bs) dL_part_7 vX11_part kL_110 hs (by omega) rfl rfl (Nat.le_of_ble_eq_true rfl) c0 rfl ⟨by omega, by omega⟩ (fun v S1 w1 hq => ?_) (fun E S1 w1 hx => ?_)
  · have h1 := hret v S1 w1 hq
    obtain ⟨⟨t1, dr1, tx1, rfl⟩, hv, -⟩ := h1 w1 (fun _ _ _ => rfl)
    obtain ⟨z0, rfl⟩ : ∃ z, v = some (zI z) := hv
    obtain ⟨z, hz, hzr⟩ := zI_in z0
    show zA l mL_part false 15 (3 - bc) (18 - bs) (zWq l n mX12_part true [zI p0, zI p1, zI p2]) zNo 10 [zR 0, zI p0, zI p1, zI p2, zR 121, .null] [zI z0, zI 0, zR 121] (ZZ t1 dr1 tx1) w1
    rw [hz]
    refine zA_if_eq (tgt := 17) dL_part_10 (by decide) hzr (fun hz0 => ?_) (fun hz0 => ?_)
    · refine zA_lconst dL_part_17 ?_
      refine zA_lastore dL_part_18 rfl ⟨by decide, by decide⟩ c121 (by decide) (by decide) (by decide) ?_
      refine zA_goto (tgt := 26) dL_part_19 (by decide) ?_
      refine zA_iconst dL_part_26 ?_
      refine zA_iret dL_part_27 rfl ?_
      obtain ⟨-, -, d2, Q2, hd2, hsp, hk⟩ := h1 (up w1 121 0 0) (fun c x hc => up_n (Or.inl hc))
      exact zWq_r hz hzr (by rw [if_pos rfl, if_pos hz0]; rfl) (up_same _ _ _ _) hd2 hsp hk
    · refine zA_lconst dL_part_13 ?_
      refine zA_goto (tgt := 18) dL_part_14 (by decide) ?_
      refine zA_lastore dL_part_18 rfl ⟨by decide, by decide⟩ c121 (by decide) (by decide) (by decide) ?_
      refine zA_goto (tgt := 26) dL_part_19 (by decide) ?_
      refine zA_iconst dL_part_26 ?_
      refine zA_iret dL_part_27 rfl ?_
      obtain ⟨-, -, d2, Q2, hd2, hsp, hk⟩ := h1 (up w1 121 0 1) (fun c x hc => up_n (Or.inl hc))
      exact zWq_r hz hzr (by rw [if_pos rfl, if_neg hz0]; rfl) (up_same _ _ _ _) hd2 hsp hk
  · obtain ⟨k, hk, ⟨t1, dr1, tx1, rfl⟩, d2, Q2, hd2, hsp, hkk⟩ := hthr E S1 w1 hx
    rcases hk with ⟨rfl, rfl, h0⟩ | ⟨rfl, rfl, h0⟩
    · refine zHn_1 (tl := []) (lo1 := [zR 0, zI p0, zI p1, zI p2, zR 121, .null]) rfl (by decide) (by decide) zlk_NSE (List.mem_cons_of_mem _ List.mem_cons_self) dL_part_22 (by decide) rfl rfl ?_
      refine zA_iconst dL_part_24 ?_
      refine zA_iret dL_part_25 rfl ?_
      exact zWq_x (by decide) (by decide) hd2 hsp hkk
    · exact absurd rfl h0
set_option maxRecDepth 100000 in
set_option maxHeartbeats 4000000 in
theorem w_bill {l : Launch} {n t dr tx : Nat} {w : zW} {p0 p1 : Int} (hp : zPr l n mX11_bill mX12_bill 1 2 false [zI p0, zI p1] t dr tx w) : zSp l mL_bill false 15 3 18 [zR 0, zI p0, zI p1, zR 121] (ZZ t dr tx) w (zWq l n mX12_bill false [zI p0, zI p1]) zNo := by
  obtain ⟨d, bc, bs, Q, X, ⟨hd, hbc, hbs⟩, hs, hret, hthr⟩ := hp
  refine zA_intro ⟨plainFor_of_name (by decide +kernel), Or.inl (by decide +kernel)⟩ rfl (Nat.le_of_ble_eq_true rfl) ?_
  show zA l mL_bill false 15 3 18 (zWq l n mX12_bill false [zI p0, zI p1]) zNo 0 [zR 0, zI p0, zI p1, zR 121, .null] [] (ZZ t dr tx) w
  refine zA_aload_n dL_bill_0 rfl ?_
  refine zA_iconst dL_bill_1 ?_
  refine zA_aload_n dL_bill_2 rfl ?_
  refine zA_iload_n dL_bill_3 rfl ?_
  refine zA_iload_n dL_bill_4 rfl ?_
  refine zA_callVX (st := [zI 0, zR 121]) (bc2 := 3 - bc) (bs2 := 18 - bs) dL_bill_5 vX11_bill kL_113 hs (by omega) rfl rfl (Nat.le_of_ble_eq_true rfl) c0 rfl ⟨by omega, by omega⟩ (fun v S1 w1 hq => ?_) (fun E S1 w1 hx => ?_)
  · have h1 := hret v S1 w1 hq
    obtain ⟨⟨t1, dr1, tx1, rfl⟩, hv, -⟩ := h1 w1 (fun _ _ _ => rfl)
    obtain ⟨z0, rfl⟩ : ∃ z, v = some (zI z) := hv
    obtain ⟨z, hz, hzr⟩ := zI_in z0
    show zA l mL_bill false 15 (3 - bc) (18 - bs) (zWq l n mX12_bill false [zI p0, zI p1]) zNo 8 [zR 0, zI p0, zI p1, zR 121, .null] [zI z0, zI 0, zR 121] (ZZ t1 dr1 tx1) w1
    rw [hz]
    refine zA_i2l dL_bill_8 hzr ?_
    refine zA_lastore dL_bill_9 rfl hzr c121 (by decide) (by decide) (by decide) ?_
    refine zA_goto (tgt := 21) dL_bill_10 (by decide) ?_
    refine zA_iconst dL_bill_21 ?_
    refine zA_iret dL_bill_22 rfl ?_
    obtain ⟨-, -, d2, Q2, hd2, hsp, hk⟩ := h1 (up w1 121 0 z) (fun c x hc => up_n (Or.inl hc))
    exact zWq_r hz hzr rfl (up_same _ _ _ _) hd2 hsp hk
  · obtain ⟨k, hk, ⟨t1, dr1, tx1, rfl⟩, d2, Q2, hd2, hsp, hkk⟩ := hthr E S1 w1 hx
    rcases hk with ⟨rfl, rfl, h0⟩ | ⟨rfl, rfl, h0⟩
    · refine zHn_1 (tl := [(0, 10, 17, 13)]) (lo1 := [zR 0, zI p0, zI p1, zR 121, .null]) rfl (by decide) (by decide) zlk_NSE (List.mem_cons_of_mem _ List.mem_cons_self) dL_bill_13 (by decide) rfl rfl ?_
      refine zA_iconst dL_bill_15 ?_
      refine zA_iret dL_bill_16 rfl ?_
      exact zWq_x (by decide) (by decide) hd2 hsp hkk
    · refine zHn_2 (tl := []) (lo1 := [zR 0, zI p0, zI p1, zR 121, .null]) rfl (by decide) zlk_NSE (by decide) (by decide) zlk_IAE dL_bill_17 (by decide) rfl rfl ?_
      refine zA_iconst dL_bill_19 ?_
      refine zA_iret dL_bill_20 rfl ?_
      exact zWq_x (by decide) (by decide) hd2 hsp hkk
set_option maxRecDepth 100000 in
set_option maxHeartbeats 4000000 in
theorem w_paid {l : Launch} {n t dr tx : Nat} {w : zW} {p0 p1 : Int} (hp : zPr l n mX11_paid mX12_paid 1 0 false [zI p0, zI p1] t dr tx w) : zSp l mL_paid false 15 3 18 [zR 0, zI p0, zI p1, zR 121] (ZZ t dr tx) w (zWq l n mX12_paid false [zI p0, zI p1]) zNo := by
  obtain ⟨d, bc, bs, Q, X, ⟨hd, hbc, hbs⟩, hs, hret, hthr⟩ := hp
  refine zA_intro ⟨plainFor_of_name (by decide +kernel), Or.inl (by decide +kernel)⟩ rfl (Nat.le_of_ble_eq_true rfl) ?_
  show zA l mL_paid false 15 3 18 (zWq l n mX12_paid false [zI p0, zI p1]) zNo 0 [zR 0, zI p0, zI p1, zR 121, .null] [] (ZZ t dr tx) w
  refine zA_aload_n dL_paid_0 rfl ?_
  refine zA_iconst dL_paid_1 ?_
  refine zA_aload_n dL_paid_2 rfl ?_
  refine zA_iload_n dL_paid_3 rfl ?_
  refine zA_iload_n dL_paid_4 rfl ?_
  refine zA_callVX (st := [zI 0, zR 121]) (bc2 := 3 - bc) (bs2 := 18 - bs) dL_paid_5 vX11_paid kL_116 hs (by omega) rfl rfl (Nat.le_of_ble_eq_true rfl) c0 rfl ⟨by omega, by omega⟩ (fun v S1 w1 hq => ?_) (fun E S1 w1 hx => ?_)
  · have h1 := hret v S1 w1 hq
    obtain ⟨⟨t1, dr1, tx1, rfl⟩, hv, -⟩ := h1 w1 (fun _ _ _ => rfl)
    obtain ⟨z0, rfl⟩ : ∃ z, v = some (zI z) := hv
    obtain ⟨z, hz, hzr⟩ := zI_in z0
    show zA l mL_paid false 15 (3 - bc) (18 - bs) (zWq l n mX12_paid false [zI p0, zI p1]) zNo 8 [zR 0, zI p0, zI p1, zR 121, .null] [zI z0, zI 0, zR 121] (ZZ t1 dr1 tx1) w1
    rw [hz]
    refine zA_i2l dL_paid_8 hzr ?_
    refine zA_lastore dL_paid_9 rfl hzr c121 (by decide) (by decide) (by decide) ?_
    refine zA_goto (tgt := 17) dL_paid_10 (by decide) ?_
    refine zA_iconst dL_paid_17 ?_
    refine zA_iret dL_paid_18 rfl ?_
    obtain ⟨-, -, d2, Q2, hd2, hsp, hk⟩ := h1 (up w1 121 0 z) (fun c x hc => up_n (Or.inl hc))
    exact zWq_r hz hzr rfl (up_same _ _ _ _) hd2 hsp hk
  · obtain ⟨k, hk, ⟨t1, dr1, tx1, rfl⟩, d2, Q2, hd2, hsp, hkk⟩ := hthr E S1 w1 hx
    rcases hk with ⟨rfl, rfl, h0⟩ | ⟨rfl, rfl, h0⟩
    · refine zHn_1 (tl := []) (lo1 := [zR 0, zI p0, zI p1, zR 121, .null]) rfl (by decide) (by decide) zlk_NSE (List.mem_cons_of_mem _ List.mem_cons_self) dL_paid_13 (by decide) rfl rfl ?_
      refine zA_iconst dL_paid_15 ?_
      refine zA_iret dL_paid_16 rfl ?_
      exact zWq_x (by decide) (by decide) hd2 hsp hkk
    · exact absurd rfl h0
set_option maxRecDepth 100000 in
set_option maxHeartbeats 4000000 in
theorem w_odds {l : Launch} {n t dr tx : Nat} {w : zW} {p0 : Int} (hp : zPr l n mX11_odds mX12_odds 1 0 false [zI p0] t dr tx w) : zSp l mL_odds false 15 3 18 [zR 0, zI p0, zR 121] (ZZ t dr tx) w (zWq l n mX12_odds false [zI p0]) zNo := by
  obtain ⟨d, bc, bs, Q, X, ⟨hd, hbc, hbs⟩, hs, hret, hthr⟩ := hp
  refine zA_intro ⟨plainFor_of_name (by decide +kernel), Or.inl (by decide +kernel)⟩ rfl (Nat.le_of_ble_eq_true rfl) ?_
  show zA l mL_odds false 15 3 18 (zWq l n mX12_odds false [zI p0]) zNo 0 [zR 0, zI p0, zR 121, .null] [] (ZZ t dr tx) w
  refine zA_aload_n dL_odds_0 rfl ?_
  refine zA_iconst dL_odds_1 ?_
  refine zA_aload_n dL_odds_2 rfl ?_
  refine zA_iload_n dL_odds_3 rfl ?_
  refine zA_callVX (st := [zI 0, zR 121]) (bc2 := 3 - bc) (bs2 := 18 - bs) dL_odds_4 vX11_odds kL_119 hs (by omega) rfl rfl (Nat.le_of_ble_eq_true rfl) c0 rfl ⟨by omega, by omega⟩ (fun v S1 w1 hq => ?_) (fun E S1 w1 hx => ?_)
  · have h1 := hret v S1 w1 hq
    obtain ⟨⟨t1, dr1, tx1, rfl⟩, hv, -⟩ := h1 w1 (fun _ _ _ => rfl)
    obtain ⟨z0, rfl⟩ : ∃ z, v = some (zI z) := hv
    obtain ⟨z, hz, hzr⟩ := zI_in z0
    show zA l mL_odds false 15 (3 - bc) (18 - bs) (zWq l n mX12_odds false [zI p0]) zNo 7 [zR 0, zI p0, zR 121, .null] [zI z0, zI 0, zR 121] (ZZ t1 dr1 tx1) w1
    rw [hz]
    refine zA_i2l dL_odds_7 hzr ?_
    refine zA_lastore dL_odds_8 rfl hzr c121 (by decide) (by decide) (by decide) ?_
    refine zA_goto (tgt := 15) dL_odds_9 (by decide) ?_
    refine zA_iconst dL_odds_15 ?_
    refine zA_iret dL_odds_16 rfl ?_
    obtain ⟨-, -, d2, Q2, hd2, hsp, hk⟩ := h1 (up w1 121 0 z) (fun c x hc => up_n (Or.inl hc))
    exact zWq_r hz hzr rfl (up_same _ _ _ _) hd2 hsp hk
  · obtain ⟨k, hk, ⟨t1, dr1, tx1, rfl⟩, d2, Q2, hd2, hsp, hkk⟩ := hthr E S1 w1 hx
    rcases hk with ⟨rfl, rfl, h0⟩ | ⟨rfl, rfl, h0⟩
    · refine zHn_1n (tl := []) (lo1 := [zR 0, zI p0, zR 121, .null]) rfl (by decide) (by decide) zlk_NSE (List.mem_cons_of_mem _ List.mem_cons_self) dL_odds_12 (by decide) rfl rfl ?_
      refine zA_iconst dL_odds_13 ?_
      refine zA_iret dL_odds_14 rfl ?_
      exact zWq_x (by decide) (by decide) hd2 hsp hkk
    · exact absurd rfl h0
