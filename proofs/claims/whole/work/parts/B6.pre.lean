/-! the law's prefix -/
section ZBN
variable {L : Nat} {xs : Nat → Int32} {l : Launch} {M : zM} {d bc bs : Nat} {Q : Option Value → zS → zW → Prop} {X : String → zS → zW → Prop} {pc : Nat} {lo st : List Value} {S : zS} {w : zW}
theorem zBN_new {idx ci N bc2 bs2 : Nat} {C : String} {T : u_T} {fs : List Nat} {ty : Nat → FieldType} (hd : decode M.2.1 pc = .ok (.new idx, 3)) (hcl : vwCl[ci]? = some (C, T, N)) (hws : ∀ w ∈ u_ws C T N, w ∈ zTB) (hty : ∀ k, k < N → parseFieldDescriptor (T k).2.2.1 = some (ty k)) (hlk : Cond.classLink M.1.cls idx C ∈ zTB) (hinst : Cond.instantiable C N ∈ zTB) (hini : Cond.initialized C ∈ zTB)
    (hfs : (List.range N).all (fun j => zdb (ty j) fs[j]?) = true) (hfl : fs.length = N) (hw : ∀ x : Int, w S.length x = 0) (hb : bc = bc2 + 1 ∧ bs = bs2 + N) (hl : S.length + 1 < 1000) (kk : zB L xs l M true d bc2 bs2 Q X (pc + 3) lo (zR S.length :: st) (S ++ [.inr (ci, fs)]) w) : zB L xs l M true d bc bs Q X pc lo st S w := by
  intro p e R s m args below meth c Z G ad A hC H locs ls cells slots hR hS hL hc hs
  obtain ⟨h1, h2, h3, h4, h5, h6, ⟨n0, h7⟩, h8, h9, h10, h11, h12, h13, h14⟩ := id hC.1
  obtain ⟨hsz, had⟩ := hR.2.2.2.2 rfl
  have hKn := hR.2.1.1 ci _ hcl
  refine W.newcK h1 h2 h4 (h5 _ hlk) (h5 _ hinst) (h5 _ hini) rfl hd (by omega) (by omega) hKn.2.1 rfl (fun H1 kC hkC e1 z1 o1 => ?_)
  have hA : A H.size := by rw [h7]; exact Or.inr hS.1
  have hat : va_at G.1 vwCl (H.size, zent G ad w S.length (.inr (ci, fs))) H1 := by
    refine ⟨_, hcl, (u_born ty h5 hws hKn hkC e1 hty).to (fun j hj => ?_)⟩
    have hj2 := List.all_eq_true.mp hfs j (List.mem_range.mpr hj)
    show defaultValue (ty j) = vp_V (fs.mapIdx (fun k f => zcv ad (zfv w S.length k f))) j
    unfold vp_V
    rw [List.getD_eq_getElem?_getD, List.getElem?_mapIdx]
    rcases zdb_s hj2 with ⟨q1, q2⟩ | ⟨q1, q2⟩
    · rw [q1, q2]
      show Value.int 0 = Value.int (Int32.ofInt (w S.length (j : Int)))
      rw [hw]; rfl
    · rw [q1, q2]; rfl
  have hR' := zRp_push (x := .inr (ci, fs)) hR hl rfl z1 o1 hat hA
  have k := kk p e R s m args below meth c Z G ad A hC H1 locs ls (cells + 1) (slots + N) hR' (va_S_push hS z1 o1) hL (by omega) (by omega)
  rw [hsz]
  exact k
theorem zBN_newa {atype : ArrayType} {t n bc2 bs2 : Nat} (hd : decode M.2.1 pc = .ok (.newarray atype, 2)) (ht : (atype = .int ∧ t = 0) ∨ (atype = .boolean ∧ t = 1) ∨ (atype = .long ∧ t = 2)) (harr : Cond.arrayClass (newarray.typeOf atype) ∈ zTB) (hn : n < 100000) (hw : ∀ x : Int, w S.length x = 0) (hb : bc = bc2 + 1 ∧ bs = bs2 + n) (hl : S.length + 1 < 1000) (kk : zB L xs l M true d bc2 bs2 Q X (pc + 2) lo (zR S.length :: st) (S ++ [.inl (t, n)]) w) : zB L xs l M true d bc bs Q X pc lo (zI (n : Int) :: st) S w := by
  intro p e R s m args below meth c Z G ad A hC H locs ls cells slots hR hS hL hc hs
  obtain ⟨h1, h2, h3, h4, h5, h6, ⟨n0, h7⟩, h8, h9, h10, h11, h12, h13, h14⟩ := id hC.1
  obtain ⟨hsz, had⟩ := hR.2.2.2.2 rfl
  have hni : (Int32.ofInt (n : Int)).toInt = (n : Int) := inR_n ⟨by omega, by omega⟩
  have hneg : ¬ Int32.ofInt (n : Int) < 0 := by
    have : ¬ (n : Int) < 0 := by omega
    exact fun q => this ((zlt ⟨by omega, by omega⟩ ⟨by decide, by decide⟩).mp (show Int32.ofInt (n : Int) < Int32.ofInt 0 from q))
  have hcl : (Int32.ofInt (n : Int)).toNatClampNeg = n := by
    show (Int32.ofInt (n : Int)).toInt.toNat = n
    rw [hni]; simp
  refine va_newaK h1 h2 (h5 _ harr) rfl hd rfl hneg hcl (by rcases ht with ⟨rfl, -⟩ | ⟨rfl, -⟩ | ⟨rfl, -⟩ <;> simp [newarray.typeOf, componentBytes] <;> omega) (by omega) (by omega) rfl (fun H1 cA e1 z1 o1 hAr hNm => ?_)
  have hA : A H.size := by rw [h7]; exact Or.inr hS.1
  have hat : va_at G.1 vwCl (H.size, zent G ad w S.length (.inl (t, n))) H1 := by
    rcases ht with ⟨rfl, rfl⟩ | ⟨rfl, rfl⟩ | ⟨rfl, rfl⟩
    · have hg : s.vm.findClass ("[" ++ (FieldType.int).toString) = some (G.2 0) := (hR.2.1.2 0 (G.2 0, .int) rfl).2
      have hcA : cA = G.2 0 := Option.some.inj (hNm.symm.trans hg)
      subst hcA
      show H1[H.size]? = some (arrV (G.2 0) n (fun j => .int (Int32.ofInt (w S.length (j : Int)))))
      rw [e1]
      congr 2
      funext j
      rw [hw]; rfl
    · have hg : s.vm.findClass ("[" ++ (FieldType.boolean).toString) = some (G.2 1) := (hR.2.1.2 1 (G.2 1, .boolean) rfl).2
      have hcA : cA = G.2 1 := Option.some.inj (hNm.symm.trans hg)
      subst hcA
      show H1[H.size]? = some (arrV (G.2 1) n (fun j => .int (Int32.ofInt (w S.length (j : Int)))))
      rw [e1]
      congr 2
      funext j
      rw [hw]; rfl
    · have hg : s.vm.findClass ("[" ++ (FieldType.long).toString) = some (G.2 2) := (hR.2.1.2 2 (G.2 2, .long) rfl).2
      have hcA : cA = G.2 2 := Option.some.inj (hNm.symm.trans hg)
      subst hcA
      show H1[H.size]? = some (arrV (G.2 2) n (fun j => .long (Int64.ofInt (w S.length (j : Int)))))
      rw [e1]
      congr 2
      funext j
      rw [hw]; rfl
  have hR' := zRp_push (x := .inl (t, n)) hR hl rfl z1 o1 hat hA
  have k := kk p e R s m args below meth c Z G ad A hC H1 locs ls (cells + 1) (slots + n) hR' (va_S_push hS z1 o1) hL (by omega) (by omega)
  rw [hsz]
  exact k
theorem zBN_callI {gr : Bool} {M' : zM} {idx d' bc' bs' bc2 bs2 n o : Nat} {As stk : List Value} {Q' : Option Value → zS → zW → Prop} (hd : decode M.2.1 pc = .ok (.invokespecial idx, 3)) (hm : zMI M' n) (hlk : zLk1 M.1.cls idx M') (hsp : zSp l M' gr d' bc' bs' (zR o :: As) S w Q' zNo) (hdd : d' < d) (hst : stk = As.reverse ++ zR o :: st) (hn : As.length = n) (hcat : (st.map fun v => v.category).sum ≤ 8) (hb : bc = bc' + bc2 ∧ bs = bs' + bs2)
    (kk : ∀ v S' w', Q' v S' w' → zB L xs l M gr d bc2 bs2 Q X (pc + 3) lo (v.toList ++ st) S' w') : zB L xs l M gr d bc bs Q X pc lo stk S w := by
  intro p e R s m args below meth c Z G ad A hC H locs ls cells slots hR hS hL hc hs
  subst hst
  obtain ⟨h1, h2, h3, h4, h5, h6, ⟨n0, h7⟩, h8, h9, h10, h11, h12, h13, h14⟩ := id hC.1
  obtain ⟨⟨g1, g2, g3⟩, g0, gr0, gn, gm, gd⟩ := hm
  have hsz : ls.size = M.2.2.1 := hL.1.1
  obtain ⟨hbc, hbs⟩ := hb
  have hcd : zcode M' = Cond.code M'.1 M'.2.1 M'.2.2.1 none := by unfold zcode; rw [g0, gr0]
  have hG : GoodIn zTB (zcode M' :: zTB) := fun w hm => by
    have : w ∈ zTB := by
      rcases List.mem_cons.mp hm with rfl | hm
      · exact g3
      · exact hm
    exact ⟨this, good_of_word (zTB_good this)⟩
  have hrun := va_runI (b := ad o) (As := As.map (zcv ad)) (rest := st.map (zcv ad)) (g := F0 m pc ls ((As.reverse ++ zR o :: st).map (zcv ad))) (H := H) (locs := locs) (cells := cells) (slots := slots) (R := R) (meth := meth) (below := below) (e := e) ⟨h1, h2, h3, h4, h5⟩ (zMet_of (hsp h6 G ad H.size) (fun E st t hx => by obtain ⟨⟨S', w', hx, -⟩, -⟩ := hx; exact hx))
    (cwI n h5 hG (by rw [hcd]) rfl rfl (h5 _ g2) (h5 _ hlk) (h5 _ g1) gn gd ⟨by show d' + 6 + 1 ≤ R.frames; omega, by show 8 + (M'.2.2.1 + 11) + (60 * d' + 100) ≤ R.locals; omega⟩)
    ⟨zPre_blind _ _ _ _ _ _ _, fun U hU hW => ⟨rfl, zPre_of h7 hR hS h9 hU hW⟩⟩ rfl (by rw [List.length_map]; exact hn) hsz (by simp [zcv]) (by show 2 * 0 + _ ≤ 8; rw [zcv_sum]; omega) hd ⟨by show cells + bc' ≤ R.cells; omega, by show slots + bs' ≤ R.slots; omega⟩
  have hsub := zFA_sub h7 hR hS
  intro T hT X
  obtain ⟨v0, st₀, t, T', Ls, h0, Y, hL', e1, e2, ⟨⟨v, S', w', hv, hq, hR'⟩, hF⟩, stp⟩ := hrun T hT X
  cases hv
  obtain ⟨-, -, k3⟩ := vx_keep h0 e1 hS (fun q _ h => hsub q h) hsub hL' hF
  have hal : s.vm.Alike t.vm := by rw [← e2]; exact Y.warmed.alike
  have := kk v S' w' hq p e R s m args below meth c Z G ad A hC T'.heap (locs ++ Ls) ls (cells + bc') (slots + bs') (zRp.moved hal.symm e1 hsub hR') k3 hL (by omega) (by omega)
  obtain ⟨t2, a1, b1⟩ := this T' rfl Y
  refine ⟨t2, stp t2 ?_, b1⟩
  rw [List.map_append] at a1
  cases v <;> exact a1
end ZBN
theorem ZY_snoc : ZY 4 10 3 ++ ([.inl (2, 1)] : zS) = ZZ 4 10 3 := rfl
theorem ZY_len : (ZY 4 10 3).length = 121 := rfl
theorem Z73_len : ((ZZ 4 10 3).take 73).length = 73 := rfl
theorem Z73_nil : ([] : zS) ++ ([.inr (10, [1, 0, 0, 1, 1, 1, 1, 1, 1, 1, 1, 1, 1, 0, 1, 1, 1])] : zS) = [.inr (10, [1, 0, 0, 1, 1, 1, 1, 1, 1, 1, 1, 1, 1, 0, 1, 1, 1])] := rfl
set_option maxRecDepth 100000 in
set_option maxHeartbeats 2000000 in
theorem law_p3 {L : Nat} {xs : Nat → Int32} {l : Launch} (hL : L ≤ 3072) {wc : zW} (hsim : zSim 0 4 10 3 wc) (h121 : ∀ x : Int, wc 121 x = 0) : zB L xs l mL_law true 16 20000 40000 QL zNo 15 [zR 4000, zR 0, .null, .null, .null, .null, .null] [zR 73] (ZY 4 10 3) wc := by
  refine zB_astore_n (lo1 := [zR 4000, zR 0, zR 73, .null, .null, .null, .null]) dL_law_15 (by decide) rfl rfl ?_
  refine zB_iconst dL_law_16 ?_
  refine zBN_newa (t := 2) (n := 1) (bc2 := 19999) (bs2 := 39999) dL_law_17 (Or.inr (Or.inr ⟨rfl, rfl⟩)) zin_long (by decide) (fun x => by rw [ZY_len]; exact h121 x) ⟨rfl, rfl⟩ (by rw [ZY_len]; decide) ?_
  rw [ZY_snoc, ZY_len]
  refine zB_astore_n (lo1 := [zR 4000, zR 0, zR 73, zR 121, .null, .null, .null]) dL_law_19 (by decide) rfl rfl ?_
  refine zB_iconst dL_law_20 ?_
  refine zB_istore (lo1 := [zR 4000, zR 0, zR 73, zR 121, zI 0, .null, .null]) dL_law_21 (by decide) rfl rfl ?_
  refine zB_gr ?_
  exact zB_wk (by decide) (by decide) (law_loop hL 512 0 4 10 3 wc 0 hsim rfl (by omega) (by omega))
set_option maxRecDepth 100000 in
set_option maxHeartbeats 2000000 in
theorem law_p2 {L : Nat} {xs : Nat → Int32} {l : Launch} (hL : L ≤ 3072) {w0 w1 : zW} {v : Option Value} {S : zS} (hz : ∀ (c : Nat) (x : Int), w0 c x = if c = 74 then -1 else 0) (hq1 : qX11 [] w0 v S w1) : zB L xs l mL_law true 16 60000 100000 QL zNo 7 [zR 4000, .null, .null, .null, .null, .null, .null] [zR 0] ((ZZ 4 10 3).take 73) w1 := by
  have h1 : ∀ (c : Nat) (x : Int), 73 ≤ c → w1 c x = if c = 74 then -1 else 0 := fun c x a => by
    rw [hq1.2.2.1 c x (by omega) (by omega) (by omega) (by omega) (by omega) (by omega) (by omega) (by omega) (by omega) (by omega) (by omega) (by omega) (by omega) (by omega)]
    exact hz c x
  refine zB_astore_n (lo1 := [zR 4000, zR 0, .null, .null, .null, .null, .null]) dL_law_7 (by decide) rfl rfl ?_
  refine zBN_new (N := 83) (bc2 := 59999) (bs2 := 99917) (fs := [1, 0, 1, 1, 1, 1, 1, 1, 1, 1, 1, 1, 0, 0, 0, 0, 0, 0, 0, 0, 0, 0, 1, 1, 1, 1, 0, 0, 0, 1, 1, 1, 1, 0, 0, 0, 0, 0, 1, 0, 0, 0, 0, 1, 0, 0, 0, 0, 1, 1, 1, 1, 1, 1, 0, 0, 0, 0, 0, 1, 1, 1, 1, 1, 1, 1, 1, 1, 1, 1, 1, 0, 0, 1, 1, 1, 0, 0, 1, 1, 1, 1, 1]) (ty := tyX12) dL_law_8 zclX12.1 zclX12.2.1 tyX12_ok (zin 1532 (by decide +kernel) rfl) (zin 1533 (by decide +kernel) rfl) (zin 112 (by decide +kernel) rfl) rfl rfl (fun x => by rw [Z73_len, h1 73 x (by decide)]; rfl) ⟨rfl, rfl⟩ (by rw [Z73_len]; decide) ?_
  rw [Z73_len]
  refine zB_dup dL_law_11 rfl ?_
  refine zBN_callI (As := []) (st := [zR 73]) (bc2 := 59952) (bs2 := 80085) dL_law_12 jX12 kL_125 (n_X12 (S0 := (ZZ 4 10 3).take 73) (w := w1) rfl (fun c x a _ b => by rw [h1 c x a, if_neg b]) (fun x => by rw [h1 74 x (by decide)]; rfl)) (by decide) rfl rfl (Nat.le_of_ble_eq_true rfl) ⟨rfl, rfl⟩ (fun v' S1 wc q2 => ?_)
  have hsim : zSim 0 4 10 3 wc := zSim_0 hz hq1 q2
  have h121 : ∀ x : Int, wc 121 x = 0 := fun x => by
    obtain ⟨-, -, wa, wb, hfr, -, -, hmz, hfg⟩ := q2
    rw [hfg.1 121 x (by decide) (by decide) (by decide) (by decide) (by decide) (by decide) (by decide) (by decide) (by decide) (Or.inl (by decide)), hmz.1 121 x (Or.inr (by decide)) (by decide) (by decide), hfr 121 x (by decide) (by decide), h1 121 x (by decide)]
    rfl
  obtain ⟨rfl, rfl, -⟩ := q2
  exact zB_wk (by decide) (by decide) (law_p3 hL hsim h121)
set_option maxRecDepth 100000 in
set_option maxHeartbeats 2000000 in
theorem law_pre {L : Nat} {xs : Nat → Int32} {l : Launch} (hL : L ≤ 3072) {w0 : zW} (hz : ∀ (c : Nat) (x : Int), w0 c x = if c = 74 then -1 else 0) : zB L xs l mL_law true 16 200000 400000 QL zNo 0 [zR 4000, .null, .null, .null, .null, .null, .null] [] [] w0 := by
  have h0 : ∀ (c : Nat) (x : Int), c ≠ 74 → w0 c x = 0 := fun c x h => by rw [hz, if_neg h]
  refine zBN_new (N := 17) (bc2 := 199999) (bs2 := 399983) (fs := [1, 0, 0, 1, 1, 1, 1, 1, 1, 1, 1, 1, 1, 0, 1, 1, 1]) (ty := tyX11) dL_law_0 zclX11.1 zclX11.2.1 tyX11_ok (zin 126 (by decide +kernel) rfl) (zin 127 (by decide +kernel) rfl) (zin 100 (by decide +kernel) rfl) rfl rfl (fun x => h0 _ x (by decide)) ⟨rfl, rfl⟩ (by decide) ?_
  refine zB_dup dL_law_3 rfl ?_
  refine zBN_callI (As := []) (st := [zR 0]) (bc2 := 199927) (bs2 := 333042) dL_law_4 jX11 kL_122 (n_X11 (S0 := []) (w := w0) rfl (fun c x _ b => h0 c x (by omega))) (by decide) rfl rfl (Nat.le_of_ble_eq_true rfl) ⟨rfl, rfl⟩ (fun v S1 w1 q1 => ?_)
  have hq1 := q1
  obtain ⟨rfl, rfl, -⟩ := q1
  exact zB_wk (by decide) (by decide) (law_p2 hL hz hq1)
