/-! the claim's words: rows for their fields and bytes; String.length, charAt -/
def sLen (k : Nat) : Int := ((zlenJ.getD k 0 : Nat) : Int)
def sCh (k : Nat) (i : Int) : Int := ((zbytJ.getD k []).getD i.toNat 0).toInt
theorem sAll : ∀ k, k < 11 → zlenJ.getD k 0 < 100 ∧ Int32.ofNat (zlenJ.getD k 0) = Int32.ofInt ((zlenJ.getD k 0 : Nat) : Int) ∧ iShr ((zlenJ.getD k 0 : Nat) : Int) 0 = ((zlenJ.getD k 0 : Nat) : Int) := by decide +kernel
theorem sChA : ∀ k, k < 11 → ∀ j, j < zlenJ.getD k 0 → (97 ≤ ((zbytJ.getD k []).getD j 0).toInt ∧ ((zbytJ.getD k []).getD j 0).toInt ≤ 122) ∧ iAnd ((zbytJ.getD k []).getD j 0).toInt 255 = ((zbytJ.getD k []).getD j 0).toInt ∧ ((Int32.ofInt ((zbytJ.getD k []).getD j 0).toInt).toUInt32 % 65536).toInt32 = Int32.ofInt ((zbytJ.getD k []).getD j 0).toInt ∧ (Int32.ofInt ((zbytJ.getD k []).getD j 0).toInt).toUInt32.toUInt16.toUInt32.toInt32 = Int32.ofInt ((zbytJ.getD k []).getD j 0).toInt := by decide +kernel
theorem sCh_b {k : Nat} {i : Int} (hk : k < 11) (i0 : 0 ≤ i) (i1 : i < sLen k) : (97 ≤ sCh k i ∧ sCh k i ≤ 122) ∧ iAnd (sCh k i) 255 = sCh k i ∧ ((Int32.ofInt (sCh k i)).toUInt32 % 65536).toInt32 = Int32.ofInt (sCh k i) ∧ (Int32.ofInt (sCh k i)).toUInt32.toUInt16.toUInt32.toInt32 = Int32.ofInt (sCh k i) := sChA k hk i.toNat (by unfold sLen at i1; omega)
theorem sLen_b {k : Nat} (hk : k < 11) : 0 ≤ sLen k ∧ sLen k < 100 := by
  have := (sAll k hk).1
  unfold sLen
  omega
section ZSTR
variable {l : Launch} {M : zM} {gr : Bool} {d bc bs : Nat} {Q : Option Value → zS → zW → Prop} {X : String → zS → zW → Prop} {pc : Nat} {lo st : List Value} {S : zS} {w : zW}
theorem zA_gCS {idx : Nat} (hd : decode M.2.1 pc = .ok (.getstatic idx, 3)) (hl : Cond.fieldLink M.1.cls idx "java/lang/String" "COMPACT_STRINGS" "Z" ∈ zTB) (kk : zA l M gr d bc bs Q X (pc + 3) lo (zI 1 :: st) S w) : zA l M gr d bc bs Q X pc lo st S w := by
  intro p e R s m args below meth c Z G ad A hC H locs ls cells slots hR hS hL hc hs
  exact va_gets hC.1 hC.2.1 hC.2.2.2.2.2.2.2.2.1.2.2.2.2.2.2.2.1 hS hC.2.2.2.1 (hC.2.2.2.2.1 _ hl) (fun x h => h) hd (zW1 rfl (kk p e R s m args below meth c Z G ad A hC H locs ls cells slots hR hS hL hc hs))
theorem zA_gSF {idx : Nat} (hd : decode M.2.1 pc = .ok (.getstatic idx, 3)) (hl : Cond.fieldLink M.1.cls idx "jdk/internal/util/Preconditions" "SIOOBE_FORMATTER" "Ljava/util/function/BiFunction;" ∈ zTB) (kk : ∀ v, (v = .null ∨ v = zR 2500) → zA l M gr d bc bs Q X (pc + 3) lo (v :: st) S w) : zA l M gr d bc bs Q X pc lo st S w := by
  intro p e R s m args below meth c Z G ad A hC H locs ls cells slots hR hS hL hc hs
  rcases hC.2.2.2.2.2.2.2.2.1.2.2.2.2.2.2.2.2.1 with h | h
  · exact va_gets hC.1 hC.2.1 h hS hC.2.2.2.1 (hC.2.2.2.2.1 _ hl) (fun x h => h) hd (kk .null (Or.inl rfl) p e R s m args below meth c Z G ad A hC H locs ls cells slots hR hS hL hc hs)
  · exact va_gets hC.1 hC.2.1 h hS hC.2.2.2.1 (hC.2.2.2.2.1 _ hl) (fun x h => h) hd (kk (zR 2500) (Or.inr rfl) p e R s m args below meth c Z G ad A hC H locs ls cells slots hR hS hL hc hs)
theorem zA_strC {idx k : Nat} (hk : k < 11) (hd : decode M.2.1 pc = .ok (.getfield idx, 3)) (hl : Cond.fieldLink M.1.cls idx "java/lang/String" "coder" "B" ∈ zTB) (kk : zA l M gr d bc bs Q X (pc + 3) lo (zI 0 :: st) S w) : zA l M gr d bc bs Q X pc lo (zR (1000 + k) :: st) S w := by
  intro p e R s m args below meth c Z G ad A hC H locs ls cells slots hR hS hL hc hs
  exact vk_getf hC.1 hC.2.1 (hC.2.2.2.2.2.2.2.2.1.2.2.2.1.1 k hk).2.1 hS hC.2.2.2.1 (hC.2.2.2.2.1 _ hl) (fun x h => h) hd (zW1 rfl (kk p e R s m args below meth c Z G ad A hC H locs ls cells slots hR hS hL hc hs))
theorem zA_strV {idx k : Nat} (hk : k < 11) (hd : decode M.2.1 pc = .ok (.getfield idx, 3)) (hl : Cond.fieldLink M.1.cls idx "java/lang/String" "value" "[B" ∈ zTB) (kk : zA l M gr d bc bs Q X (pc + 3) lo (zR (1500 + k) :: st) S w) : zA l M gr d bc bs Q X pc lo (zR (1000 + k) :: st) S w := by
  intro p e R s m args below meth c Z G ad A hC H locs ls cells slots hR hS hL hc hs
  exact vk_getf hC.1 hC.2.1 (hC.2.2.2.2.2.2.2.2.1.2.2.2.1.1 k hk).2.2.1 hS hC.2.2.2.1 (hC.2.2.2.2.1 _ hl) (fun x h => h) hd (kk p e R s m args below meth c Z G ad A hC H locs ls cells slots hR hS hL hc hs)
theorem zA_strL {k : Nat} (hk : k < 11) (hd : decode M.2.1 pc = .ok (.arraylength, 1)) (kk : zA l M gr d bc bs Q X (pc + 1) lo (zI (sLen k) :: st) S w) : zA l M gr d bc bs Q X pc lo (zR (1500 + k) :: st) S w := by
  intro p e R s m args below meth c Z G ad A hC H locs ls cells slots hR hS hL hc hs
  exact va_tlen hC.1 hC.2.1 (hC.2.2.2.2.2.2.2.2.1.2.2.2.1.1 k hk).2.2.2 hS (sAll k hk).2.1 hd (kk p e R s m args below meth c Z G ad A hC H locs ls cells slots hR hS hL hc hs)
theorem zA_strB {k : Nat} {i : Int} (hk : k < 11) (hd : decode M.2.1 pc = .ok (.baload, 1)) (i0 : 0 ≤ i) (i1 : i < sLen k) (kk : zA l M gr d bc bs Q X (pc + 1) lo (zI (sCh k i) :: st) S w) : zA l M gr d bc bs Q X pc lo (zI i :: zR (1500 + k) :: st) S w := by
  intro p e R s m args below meth c Z G ad A hC H locs ls cells slots hR hS hL hc hs
  obtain ⟨hi1, hi2⟩ := zix (n := zlenJ.getD k 0) i0 i1 (by have := (sAll k hk).1; omega)
  exact va_tb hC.1 hC.2.1 (hC.2.2.2.2.2.2.2.2.1.2.2.2.1.1 k hk).2.2.2 hS hi1 rfl hd (zW1 (by rw [hi2]; exact (zof _).symm) (kk p e R s m args below meth c Z G ad A hC H locs ls cells slots hR hS hL hc hs))
theorem zA_i2c {a : Int} (hd : decode M.2.1 pc = .ok (.i2c, 1)) (ha : ((Int32.ofInt a).toUInt32 % 65536).toInt32 = Int32.ofInt a) (kk : zA l M gr d bc bs Q X (pc + 1) lo (zI a :: st) S w) : zA l M gr d bc bs Q X pc lo (zI a :: st) S w := by
  intro p e R s m args below meth c Z G ad A hC H locs ls cells slots hR hS hL hc hs
  exact lv_i2c hC.1 hC.2.1 hd ha (kk p e R s m args below meth c Z G ad A hC H locs ls cells slots hR hS hL hc hs)
theorem zA_nret {a : Int} {ty : FieldType} (hd : decode M.2.1 pc = .ok (.ireturn, 1)) (hr : M.2.2.2.1 = some ty) (hn : narrow ty (zI a) = zI a) (hq : Q (some (zI a)) S w) : zA l M gr d bc bs Q X pc lo [zI a] S w :=
  zA_ret (v := some (zI a)) ⟨hd, _, hr, hn⟩ hq
theorem zA_cStr {M' : zM} {idx d' n k : Nat} {As stk : List Value} {st : List Value} {Q' : Option Value → zS → zW → Prop}
    (hd : decode M.2.1 pc = .ok (.invokevirtual idx, 3)) (hm : zMV M' "java/lang/String" n) (hlk : zLk1 M.1.cls idx M') (hsp : zSp l M' gr d' 0 0 (zR (1000 + k) :: As) S w Q' zNo) (hdd : d' < d) (hst : stk = As.reverse ++ zR (1000 + k) :: st) (hn : As.length = n) (hcat : (st.map fun v => v.category).sum ≤ 8)
    (hk : k < 11) (kk : ∀ v S' w', Q' v S' w' → zA l M gr d bc bs Q X (pc + 3) lo (v.toList ++ st) S' w') : zA l M gr d bc bs Q X pc lo stk S w := by
  intro p e R s m args below meth c Z G ad A hC H locs ls cells slots hR hS hL hc hs
  subst hst
  obtain ⟨h1, h2, h3, h4, h5, h6, ⟨n0, h7⟩, h8, h9, h10, h11, h12, h13, h14⟩ := id hC
  have hG := zgoodV hm hlk
  obtain ⟨-, g0, g2, g3⟩ := hm
  have hcd : zcode M' = Cond.code M'.1 M'.2.1 M'.2.2.1 M'.2.2.2.1 := by unfold zcode; rw [g0]
  have hsz : ls.size = M.2.2.1 := hL.1.1
  have hrun := vx_runV (As := As.map (zcv ad)) (rest := st.map (zcv ad)) (b := ad (1000 + k)) (g := F0 m pc ls ((As.reverse ++ zR (1000 + k) :: st).map (zcv ad))) (H := H) (locs := locs) (cells := cells) (slots := slots) (R := R) (meth := meth) (below := below) (e := e) ⟨h1, h2, h3, h4, h5⟩ (hsp h6 G ad H.size)
    (cwV n h5 hG (by rw [hcd]) rfl rfl g3 ⟨by show d' + 6 + 1 ≤ R.frames; omega, by show 8 + (M'.2.2.1 + 11) + (60 * d' + 100) ≤ R.locals; omega⟩)
    ⟨zPre_blind _ _ _ _ _ _ _, vk_recv (i := k) h9.2.2.2.1 hk hS, fun U hU hW => ⟨rfl, zPre_of h7 hR hS h9 hU hW⟩⟩ rfl (by rw [List.length_map]; exact hn) hsz (by simp [zcv]) (by show 2 * 0 + _ ≤ 8; rw [zcv_sum]; omega) hd ⟨by show cells + 0 ≤ R.cells; omega, by show slots + 0 ≤ R.slots; omega⟩
  refine zbehind (w := w) hrun h7 hR hS (fun v S' w' H1 locs1 hq hR1 hS1 => ?_) (fun E S' w' H1 locs1 q ce hx hR1 hS1 hce hcv hcle => ?_)
  · have := kk v S' w' hq p e R s m args below meth c Z G ad A hC H1 locs1 ls (cells + 0) (slots + 0) hR1 hS1 hL (by omega) (by omega)
    rw [List.map_append] at this
    exact this
  · exact hx.elim
end ZSTR
theorem qJ_cs : Cond.fieldLink RJ0 38 "java/lang/String" "COMPACT_STRINGS" "Z" ∈ zTB := zin 903 (by decide +kernel) rfl
theorem qJ_sf : Cond.fieldLink RJ0 1053 "jdk/internal/util/Preconditions" "SIOOBE_FORMATTER" "Ljava/util/function/BiFunction;" ∈ zTB := zin 919 (by decide +kernel) rfl
theorem qJ_v : Cond.fieldLink RJ0 9 "java/lang/String" "value" "[B" ∈ zTB := zin 2264 (by decide +kernel) rfl
theorem qJ_c : Cond.fieldLink RJ0 15 "java/lang/String" "coder" "B" ∈ zTB := zin 2265 (by decide +kernel) rfl
set_option maxRecDepth 100000 in
set_option maxHeartbeats 4000000 in
theorem s_coder {l : Launch} {S : zS} {w : zW} {gr : Bool} {k : Nat} (hk : k < 11) : zSp l mJ0_coder_7d493 gr 1 0 0 [zR (1000 + k)] S w (zRt (some (zI 0)) S w) zNo := by
  refine zA_intro ⟨by decide +kernel, Or.inr rfl⟩ rfl (Nat.le_of_ble_eq_true rfl) ?_
  refine zA_range (fun hr => ?_)
  show zA l mJ0_coder_7d493 gr 1 0 0 (zRt (some (zI 0)) S w) zNo 0 [zR (1000 + k)] [] S w
  refine zA_gCS dJ0_coder_7d493_0 qJ_cs ?_
  refine zA_if_eq (tgt := 13) dJ0_coder_7d493_3 (by decide) ⟨by decide, by decide⟩ (fun c3 => ?_) (fun c3 => ?_)
  · skip
    exact absurd c3 (by decide)
  · skip
    refine zA_aload_n dJ0_coder_7d493_6 rfl ?_
    refine zA_strC hk dJ0_coder_7d493_7 qJ_c ?_
    refine zA_goto (tgt := 14) dJ0_coder_7d493_10 (by decide) ?_
    exact zA_nret dJ0_coder_7d493_14 rfl (by rfl) ⟨rfl, rfl, rfl⟩

set_option maxRecDepth 100000 in
set_option maxHeartbeats 4000000 in
theorem s_strlen {l : Launch} {S : zS} {w : zW} {gr : Bool} {k : Nat} (hk : k < 11) : zSp l mJ0_length_8abf5 gr 2 0 0 [zR (1000 + k)] S w (zRt (some (zI (sLen k))) S w) zNo := by
  refine zA_intro ⟨by decide +kernel, Or.inr rfl⟩ rfl (Nat.le_of_ble_eq_true rfl) ?_
  refine zA_range (fun hr => ?_)
  show zA l mJ0_length_8abf5 gr 2 0 0 (zRt (some (zI (sLen k))) S w) zNo 0 [zR (1000 + k)] [] S w
  refine zA_aload_n dJ0_length_8abf5_0 rfl ?_
  refine zA_strV hk dJ0_length_8abf5_1 qJ_v ?_
  refine zA_strL hk dJ0_length_8abf5_4 ?_
  refine zA_aload_n dJ0_length_8abf5_5 rfl ?_
  refine zA_cStr (st := [zI (sLen k)]) dJ0_length_8abf5_6 vJ0_coder_7d493 kJ0_335 (s_coder hk) (by decide) rfl rfl (Nat.le_of_ble_eq_true rfl) hk (zRt_el ?_)
  refine zA_ishr dJ0_length_8abf5_9 ?_
  refine zA_valI (sLen k) ((sAll k hk).2.2) ?_
  refine zA_iret dJ0_length_8abf5_10 rfl ?_
  exact ⟨rfl, rfl, rfl⟩

set_option maxRecDepth 100000 in
set_option maxHeartbeats 4000000 in
theorem s_isLatin1 {l : Launch} {S : zS} {w : zW} {gr : Bool} {k : Nat} (hk : k < 11) : zSp l mJ0_isLatin1_aae02 gr 1 0 0 [zR (1000 + k)] S w (zRt (some (zI 1)) S w) zNo := by
  refine zA_intro ⟨by decide +kernel, Or.inr rfl⟩ rfl (Nat.le_of_ble_eq_true rfl) ?_
  refine zA_range (fun hr => ?_)
  show zA l mJ0_isLatin1_aae02 gr 1 0 0 (zRt (some (zI 1)) S w) zNo 0 [zR (1000 + k)] [] S w
  refine zA_gCS dJ0_isLatin1_aae02_0 qJ_cs ?_
  refine zA_if_eq (tgt := 17) dJ0_isLatin1_aae02_3 (by decide) ⟨by decide, by decide⟩ (fun c3 => ?_) (fun c3 => ?_)
  · skip
    exact absurd c3 (by decide)
  · skip
    refine zA_aload_n dJ0_isLatin1_aae02_6 rfl ?_
    refine zA_strC hk dJ0_isLatin1_aae02_7 qJ_c ?_
    refine zA_if_ne (tgt := 17) dJ0_isLatin1_aae02_10 (by decide) ⟨by decide, by decide⟩ (fun c10 => ?_) (fun c10 => ?_)
    · skip
      exact absurd rfl c10
    · skip
      refine zA_iconst dJ0_isLatin1_aae02_13 ?_
      refine zA_goto (tgt := 18) dJ0_isLatin1_aae02_14 (by decide) ?_
      refine zA_zret dJ0_isLatin1_aae02_18 rfl (Or.inr rfl) ?_
      exact ⟨rfl, rfl, rfl⟩

set_option maxRecDepth 100000 in
set_option maxHeartbeats 4000000 in
theorem s_preIx {l : Launch} {S : zS} {w : zW} {gr : Bool} {i n : Int} (i0 : 0 ≤ i) (i1 : i < n) (hn : n < 100) {v2 : Value} (hv2 : v2 = .null ∨ v2 = zR 2500) : zSp l mJ3_checkIndex_8e157 gr 1 0 0 [zI i, zI n, v2] S w (zRt (some (zI i)) S w) zNo := by
  refine zA_intro ⟨by decide +kernel, Or.inr rfl⟩ (by rcases hv2 with rfl | rfl <;> rfl) (Nat.le_of_ble_eq_true rfl) ?_
  refine zA_drop 2 (lo1 := [zI i, zI n, .null]) rfl ?_
  refine zA_range (fun hr => ?_)
  show zA l mJ3_checkIndex_8e157 gr 1 0 0 (zRt (some (zI i)) S w) zNo 0 [zI i, zI n, .null] [] S w
  refine zA_iload_n dJ3_checkIndex_8e157_0 rfl ?_
  refine zA_if_lt (tgt := 9) dJ3_checkIndex_8e157_1 (by decide) (by first | assumption | exact hr _ _ | exact inR_mk (by omega) (by omega)) (fun c1 => ?_) (fun c1 => ?_)
  · skip
    exfalso; omega
  · skip
    refine zA_iload_n dJ3_checkIndex_8e157_4 rfl ?_
    refine zA_iload_n dJ3_checkIndex_8e157_5 rfl ?_
    refine zA_icmp_lt (tgt := 16) dJ3_checkIndex_8e157_6 (by decide) (by first | assumption | exact hr _ _ | exact inR_mk (by omega) (by omega)) (by first | assumption | exact hr _ _ | exact inR_mk (by omega) (by omega)) (fun c6 => ?_) (fun c6 => ?_)
    · skip
      refine zA_iload_n dJ3_checkIndex_8e157_16 rfl ?_
      refine zA_iret dJ3_checkIndex_8e157_17 rfl ?_
      exact ⟨rfl, rfl, rfl⟩
    · skip
      exfalso; omega

set_option maxRecDepth 100000 in
set_option maxHeartbeats 4000000 in
theorem s_strIx {l : Launch} {S : zS} {w : zW} {gr : Bool} {i n : Int} (i0 : 0 ≤ i) (i1 : i < n) (hn : n < 100) : zSp l mJ0_checkIndex_df160 gr 2 0 0 [zI i, zI n] S w (zRt none S w) zNo := by
  refine zA_intro ⟨by decide +kernel, Or.inr rfl⟩ rfl (Nat.le_of_ble_eq_true rfl) ?_
  refine zA_range (fun hr => ?_)
  show zA l mJ0_checkIndex_df160 gr 2 0 0 (zRt none S w) zNo 0 [zI i, zI n] [] S w
  refine zA_iload_n dJ0_checkIndex_df160_0 rfl ?_
  refine zA_iload_n dJ0_checkIndex_df160_1 rfl ?_
  refine zA_gSF dJ0_checkIndex_df160_2 qJ_sf (fun v2 hv2 => ?_)
  refine zA_cS (st := []) dJ0_checkIndex_df160_5 sJ3_checkIndex_8e157 kJ0_1059 (s_preIx i0 i1 hn hv2) (by decide) rfl rfl (Nat.le_of_ble_eq_true rfl) (zRt_el ?_)
  refine zA_pop dJ0_checkIndex_df160_8 rfl ?_
  refine zA_vret dJ0_checkIndex_df160_9 rfl ?_
  exact ⟨rfl, rfl, rfl⟩

set_option maxRecDepth 100000 in
set_option maxHeartbeats 4000000 in
theorem s_latAt {l : Launch} {S : zS} {w : zW} {gr : Bool} {k : Nat} {i : Int} (hk : k < 11) (i0 : 0 ≤ i) (i1 : i < sLen k) : zSp l mJ1_charAt_3b067 gr 3 0 0 [zR (1500 + k), zI i] S w (zRt (some (zI (sCh k i))) S w) zNo := by
  refine zA_intro ⟨by decide +kernel, Or.inr rfl⟩ rfl (Nat.le_of_ble_eq_true rfl) ?_
  have hlb := sLen_b hk
  refine zA_range (fun hr => ?_)
  show zA l mJ1_charAt_3b067 gr 3 0 0 (zRt (some (zI (sCh k i))) S w) zNo 0 [zR (1500 + k), zI i] [] S w
  refine zA_iload_n dJ1_charAt_3b067_0 rfl ?_
  refine zA_aload_n dJ1_charAt_3b067_1 rfl ?_
  refine zA_strL hk dJ1_charAt_3b067_2 ?_
  refine zA_cS (st := []) dJ1_charAt_3b067_3 sJ0_checkIndex_df160 kJ1_9 (s_strIx i0 i1 hlb.2) (by decide) rfl rfl (Nat.le_of_ble_eq_true rfl) (zRt_el ?_)
  refine zA_aload_n dJ1_charAt_3b067_6 rfl ?_
  refine zA_iload_n dJ1_charAt_3b067_7 rfl ?_
  refine zA_strB hk dJ1_charAt_3b067_8 i0 i1 ?_
  refine zA_sipush dJ1_charAt_3b067_9 rfl ?_
  refine zA_iand dJ1_charAt_3b067_12 ?_
  refine zA_valI (sCh k i) (sCh_b hk i0 i1).2.1 ?_
  refine zA_i2c dJ1_charAt_3b067_13 (sCh_b hk i0 i1).2.2.1 ?_
  exact zA_nret dJ1_charAt_3b067_14 rfl (by have h := (sCh_b hk i0 i1).2.2.2; show Value.int ((Int32.ofInt (sCh k i)).toUInt32.toUInt16.toUInt32.toInt32) = _; rw [h]) ⟨rfl, rfl, rfl⟩

set_option maxRecDepth 100000 in
set_option maxHeartbeats 4000000 in
theorem s_charAt {l : Launch} {S : zS} {w : zW} {gr : Bool} {k : Nat} {i : Int} (hk : k < 11) (i0 : 0 ≤ i) (i1 : i < sLen k) : zSp l mJ0_charAt_5068e gr 4 0 0 [zR (1000 + k), zI i] S w (zRt (some (zI (sCh k i))) S w) zNo := by
  refine zA_intro ⟨by decide +kernel, Or.inr rfl⟩ rfl (Nat.le_of_ble_eq_true rfl) ?_
  refine zA_range (fun hr => ?_)
  show zA l mJ0_charAt_5068e gr 4 0 0 (zRt (some (zI (sCh k i))) S w) zNo 0 [zR (1000 + k), zI i] [] S w
  refine zA_aload_n dJ0_charAt_5068e_0 rfl ?_
  refine zA_cStr (st := []) dJ0_charAt_5068e_1 vJ0_isLatin1_aae02 kJ0_492 (s_isLatin1 hk) (by decide) rfl rfl (Nat.le_of_ble_eq_true rfl) hk (zRt_el ?_)
  refine zA_if_eq (tgt := 16) dJ0_charAt_5068e_4 (by decide) ⟨by decide, by decide⟩ (fun c4 => ?_) (fun c4 => ?_)
  · skip
    exact absurd c4 (by decide)
  · skip
    refine zA_aload_n dJ0_charAt_5068e_7 rfl ?_
    refine zA_strV hk dJ0_charAt_5068e_8 qJ_v ?_
    refine zA_iload_n dJ0_charAt_5068e_11 rfl ?_
    refine zA_cS (st := []) dJ0_charAt_5068e_12 sJ1_charAt_3b067 kJ0_495 (s_latAt hk i0 i1) (by decide) rfl rfl (Nat.le_of_ble_eq_true rfl) (zRt_el ?_)
    exact zA_nret dJ0_charAt_5068e_15 rfl (by have h := (sCh_b hk i0 i1).2.2.2; show Value.int ((Int32.ofInt (sCh k i)).toUInt32.toUInt16.toUInt32.toInt32) = _; rw [h]) ⟨rfl, rfl, rfl⟩

