/-! cells: fields, arrays, statics, texts -/
theorem zent_congr {G : zG} {ad : Nat → Nat} {w w' : zW} {i : Nat} (k : zK) (h : ∀ j, w' i j = w i j) : zent G ad w' i k = zent G ad w i k := by
  have hw : w' i = w i := funext h
  rcases k with ⟨t, n⟩ | ⟨c, fs⟩
  · match t with
    | 0 => simp only [zent, hw]
    | 1 => simp only [zent, hw]
    | 2 => simp only [zent, hw]
    | t + 3 => simp only [zent, hw]
  · simp only [zent]
    congr 2
    refine List.mapIdx_eq_mapIdx_iff.mpr ?_
    intro j hj
    unfold zfv
    split <;> simp [hw]
theorem zcs_set {G : zG} {ad : Nat → Nat} {w w' : zW} {S : zS} {c : Nat} {kd' : zK} {e : va_E} (h1 : ∀ i j, i ≠ c → w' i j = w i j) (he : e = zent G ad w' c kd') : (zcs G ad w S).set c (ad c, e) = zcs G ad w' (S.set c kd') := by
  subst he
  apply List.ext_getElem?
  intro i
  by_cases hi : i = c
  · subst hi
    by_cases hl : i < S.length
    · rw [List.getElem?_set_self (by simpa [zcs] using hl)]
      rw [zcs_get (k := kd') (by rw [List.getElem?_set_self hl])]
    · have e1 : (zcs G ad w S).set i (ad i, zent G ad w' i kd') = zcs G ad w S := List.set_eq_of_length_le (by simpa [zcs] using Nat.le_of_not_lt hl)
      have e2 : S.set i kd' = S := List.set_eq_of_length_le (Nat.le_of_not_lt hl)
      rw [e1, e2]
      have n1 : (zcs G ad w S)[i]? = none := List.getElem?_eq_none (by simpa [zcs] using Nat.le_of_not_lt hl)
      have n2 : (zcs G ad w' S)[i]? = none := List.getElem?_eq_none (by simpa [zcs] using Nat.le_of_not_lt hl)
      rw [n1, n2]
  · rw [List.getElem?_set_ne (Ne.symm hi)]
    cases hk : S[i]? with
    | none =>
      have n1 : (zcs G ad w S)[i]? = none := List.getElem?_eq_none (by simpa [zcs] using List.getElem?_eq_none_iff.mp hk)
      have n2 : (zcs G ad w' (S.set c kd'))[i]? = none := List.getElem?_eq_none (by simpa [zcs] using List.getElem?_eq_none_iff.mp hk)
      rw [n1, n2]
    | some kd =>
      rw [zcs_get hk, zcs_get (k := kd) (by rw [List.getElem?_set_ne (Ne.symm hi)]; exact hk), zent_congr kd (fun j => h1 i j hi)]
theorem zset_self {S : zS} {c : Nat} {k : zK} (h : S[c]? = some k) : S.set c k = S := by
  apply List.ext_getElem?
  intro i
  by_cases hi : i = c
  · subst hi
    rw [List.getElem?_set_self (List.getElem?_eq_some_iff.mp h).1, h]
  · rw [List.getElem?_set_ne (Ne.symm hi)]
theorem up_row {w : zW} {c : Nat} {i v : Int} : ∀ x y, x ≠ c → up w c i v x y = w x y := fun x y h => up_cell w i y v h
theorem zent_putI {G : zG} {ad : Nat → Nat} {w : zW} {c ci k : Nat} {fs : List Nat} {v : Int} (hk : fs[k]? = some 0) : (Sum.inr (ci, (fs.mapIdx (fun k f => zcv ad (zfv w c k f))).set k (zcv ad (zI v))) : va_E) = zent G ad (up w c (k : Int) v) c (.inr (ci, fs)) := by
  simp only [zent]
  congr 2
  apply List.ext_getElem?
  intro j
  by_cases hj : j = k
  · subst hj
    have hl : j < fs.length := (List.getElem?_eq_some_iff.mp hk).1
    rw [List.getElem?_set_self (by simpa using hl), List.getElem?_mapIdx, hk]
    simp [zfv, zcv, up_same]
  · rw [List.getElem?_set_ne (Ne.symm hj), List.getElem?_mapIdx, List.getElem?_mapIdx]
    cases hf : fs[j]? with
    | none => rfl
    | some f =>
      simp only [Option.map_some]
      congr 2
      unfold zfv
      split
      · rw [up_idx w c c v (by omega)]
      · rfl
      · rfl
theorem zent_putR {G : zG} {ad : Nat → Nat} {w : zW} {c ci k n : Nat} {fs : List Nat} (hk : k < fs.length) : (Sum.inr (ci, (fs.mapIdx (fun k f => zcv ad (zfv w c k f))).set k (zcv ad (zR n))) : va_E) = zent G ad w c (.inr (ci, fs.set k (n + 2))) := by
  simp only [zent]
  congr 2
  apply List.ext_getElem?
  intro j
  by_cases hj : j = k
  · subst hj
    rw [List.getElem?_set_self (by simpa using hk), List.getElem?_mapIdx, List.getElem?_set_self hk]
    simp [zfv, zcv]
  · rw [List.getElem?_set_ne (Ne.symm hj), List.getElem?_mapIdx, List.getElem?_mapIdx, List.getElem?_set_ne (Ne.symm hj)]
theorem up_inR {w : zW} (h : ∀ c i, inR (w c i)) {c : Nat} {i v : Int} (hv : inR v) : ∀ c' i', inR (up w c i v c' i') := by
  intro c' i'
  unfold up
  split
  · exact hv
  · exact h c' i'
section ZV
variable {p : Program} {l : Launch} {e : Env} {R : Room} {s : State} {m : MethodId} {args : Array Value} {below : List Frame} {meth : Method} {c : Code} {H : Heap} {locs : List Loc} {cells slots : Nat} {Z : State → Prop}
variable {pc : Nat} {ls : Array Slot} {rest : List Value} {D : va_G} {cl : List vw_C} {A : Nat → Prop} {a : Nat} {tys : List (ClassId × FieldType)} {ws : va_W} {H0 : Heap} {cc : ByteArray}
/-- a number into a field, and the heap's size stays -/
theorem zv_put (hexec : p.tables.exec = Jvm.exec) (hb : c.code = cc) {own C : String} {T : u_T} {N ci index : Nat} {Ts : List Cond} (hts : ∀ w ∈ Ts, w.before args s = true) (hin : ∀ w ∈ u_ws C T N, w ∈ Ts) (ty0 : Nat → FieldType) (hty : ∀ k, k < N → parseFieldDescriptor (T k).2.2.1 = some (ty0 k)) (hnm : ∀ a, a < N → ∀ b, b < N → a ≠ b → (T a).2.1 ≠ (T b).2.1) (hown : s.vm.findClass own = some m.cls) (hK : va_K D cl tys s) (hP : va_P D cl ws H) (hD : va_D A ws) (hS0 : va_S A H0 H locs) (q0 : Nat) {fs : List Value} (he : ws[q0]? = some (a, .inr (ci, fs))) (hc : cl[ci]? = some (C, T, N)) (k : Nat) (hk : k < N) (hlink : (Cond.fieldLink own index (T k).1 (T k).2.1 (T k).2.2.1).before args s = true) (hfin : (T k).2.2.2 = false) {ty : FieldType} {v : Value} (hd : parseFieldDescriptor (T k).2.2.1 = some ty) (hn : narrow ty v = v) (hfit : fits ty v = true) (hl : k < fs.length)
    (hdg : decode cc pc = .ok (.putfield index, 3)) (kk : ∀ (H1 : Heap) (locs1 : List Loc), H1.size = H.size → va_P D cl (ws.set q0 (a, .inr (ci, fs.set k v))) H1 → va_D A (ws.set q0 (a, .inr (ci, fs.set k v))) → va_S A H0 H1 locs1 → W p l e R s m args below meth c H1 locs1 cells slots Z (F0 m (pc + 3) ls rest)) : W p l e R s m args below meth c H locs cells slots Z (F0 m pc ls (v :: .ref a :: rest)) := by
  have hap := va_apart (own := own) hts hin ty0 hty hnm hK hc
  obtain ⟨r, h1, cell, q1, q2, q3, q4⟩ := hP q0 _ he
  have hr : r = (C, T, N) := Option.some.inj (h1.symm.trans hc)
  subst hr
  obtain ⟨hS, hfc, kC, hkC, hkind⟩ := hK.1 ci _ hc
  obtain ⟨cf, kf, fi, f, hi, hsl⟩ := hS k hk
  have hlay := hts _ (hin _ (u_in_lay hk))
  unfold u_lay at hlay
  rw [if_neg (by rw [hfin]; decide)] at hlay
  have hst := (u_facts hfc hkC (u_lays hts hin hk) hi).1
  refine W.putK hexec hb (f := f) ⟨hown, hlink, ⟨_, _, _, hi⟩, hst⟩ (by rw [q2]; exact u_store hfc hkC hkind hlay hi hd hn hfit) q1 q3 (by rw [hsl]; exact k2_hasslot (q4 k hk)) rfl rfl hdg fun H' e1 e2 e3 => ?_
  rw [hsl] at e1 ⊢
  exact kk H' _ e2 (hP.set hD he ⟨_, hc, t_OB.to (V := updV (vp_V fs) k v) ⟨_, e1, q2, q3, t_set q4 hap hk v⟩ (fun j _ => vp_updV_set hl v j)⟩ e3) (hD.set he) (hS0.put e2 e3 (hD.2 q0 _ he))
/-- a final field, in its constructor -/
theorem zv_putF (hexec : p.tables.exec = Jvm.exec) (hb : c.code = cc) {own C : String} {T : u_T} {N ci index : Nat} {Ts : List Cond} (hts : ∀ w ∈ Ts, w.before args s = true) (hin : ∀ w ∈ u_ws C T N, w ∈ Ts) (ty0 : Nat → FieldType) (hty : ∀ k, k < N → parseFieldDescriptor (T k).2.2.1 = some (ty0 k)) (hnm : ∀ a, a < N → ∀ b, b < N → a ≠ b → (T a).2.1 ≠ (T b).2.1) (hown : s.vm.findClass own = some m.cls) (hK : va_K D cl tys s) (hP : va_P D cl ws H) (hD : va_D A ws) (hS0 : va_S A H0 H locs) (q0 : Nat) {fs : List Value} (he : ws[q0]? = some (a, .inr (ci, fs))) (hc : cl[ci]? = some (C, T, N)) (k : Nat) (hk : k < N) (hlink : (Cond.fieldLink own index (T k).1 (T k).2.1 (T k).2.2.1).before args s = true) (hfin : (T k).2.2.2 = true) (hin2 : meth.name = "<init>") (hdecl : (T k).1 = own) {ty : FieldType} {v : Value} (hd : parseFieldDescriptor (T k).2.2.1 = some ty) (hn : narrow ty v = v) (hfit : fits ty v = true) (hl : k < fs.length)
    (hdg : decode cc pc = .ok (.putfield index, 3)) (kk : ∀ (H1 : Heap) (locs1 : List Loc), H1.size = H.size → va_P D cl (ws.set q0 (a, .inr (ci, fs.set k v))) H1 → va_D A (ws.set q0 (a, .inr (ci, fs.set k v))) → va_S A H0 H1 locs1 → W p l e R s m args below meth c H1 locs1 cells slots Z (F0 m (pc + 3) ls rest)) : W p l e R s m args below meth c H locs cells slots Z (F0 m pc ls (v :: .ref a :: rest)) := by
  have hap := va_apart (own := own) hts hin ty0 hty hnm hK hc
  obtain ⟨r, h1, cell, q1, q2, q3, q4⟩ := hP q0 _ he
  have hr : r = (C, T, N) := Option.some.inj (h1.symm.trans hc)
  subst hr
  obtain ⟨hS, hfc, kC, hkC, hkind⟩ := hK.1 ci _ hc
  obtain ⟨cf, kf, fi, f, hi, hsl⟩ := hS k hk
  have hlay := hts _ (hin _ (u_in_lay hk))
  unfold u_lay at hlay
  rw [if_pos hfin] at hlay
  have hst := (u_facts hfc hkC (u_lays hts hin hk) hi).1
  have hcf : m.cls = cf := by
    obtain ⟨_, _, c', _, _, _, -, -, hf', -, -, -, hown2, -⟩ := Cond.laysFinal_spec hlay
    have e1 : c' = cf := by
      have := hi.symm.trans hf'
      simp at this
      exact this.1.symm
    rw [hdecl] at hown2
    rw [← e1]
    exact Option.some.inj (hown.symm.trans hown2)
  have h6 := u_fits hfc hkC hkind (Or.inr hlay) hi hd hn hfit
  refine W.putFinK hexec hb hown hlink hi hst hcf hin2 (by rw [q2]; exact h6) q1 q3 (by rw [hsl]; exact k2_hasslot (q4 k hk)) rfl rfl hdg fun H' e1 e2 e3 => ?_
  rw [hsl] at e1 ⊢
  exact kk H' _ e2 (hP.set hD he ⟨_, hc, t_OB.to (V := updV (vp_V fs) k v) ⟨_, e1, q2, q3, t_set q4 hap hk v⟩ (fun j _ => vp_updV_set hl v j)⟩ e3) (hD.set he) (hS0.put e2 e3 (hD.2 q0 _ he))
theorem zv_iast (hexec : p.tables.exec = Jvm.exec) (hb : c.code = cc) (hK : va_K D cl tys s) (hP : va_P D cl ws H) (hD : va_D A ws) (hS : va_S A H0 H locs) (q0 t0 : Nat) {cA : ClassId} {n : Nat} {f : Nat → Int32} (ha : ws[q0]? = some (a, .inl (cA, n, .inl f))) (ht : tys[t0]? = some (cA, .int)) {i : Int32} {x : Int32} (hin : vp_in i n) (hdg : decode cc pc = .ok (.iastore, 1))
    (kk : ∀ (H1 : Heap) (locs1 : List Loc), H1.size = H.size → va_P D cl (ws.set q0 (a, .inl (cA, n, .inl (upd f i.toNatClampNeg x)))) H1 → va_D A (ws.set q0 (a, .inl (cA, n, .inl (upd f i.toNatClampNeg x)))) → va_S A H0 H1 locs1 → W p l e R s m args below meth c H1 locs1 cells slots Z (F0 m (pc + 1) ls rest)) : W p l e R s m args below meth c H locs cells slots Z (F0 m pc ls (.int x :: .int i :: .ref a :: rest)) := by
  refine W.iast hexec hb (hP q0 _ ha) ((hK.2 t0 _ ht).1 n (fun j => .int (f j))) (fun q => by cases q) (by show ¬ (i < 0 ∨ (arrV _ _ _).slots.size ≤ _); rw [arrV_size]; exact hin) rfl rfl hdg fun H1 e z oq => ?_
  refine kk H1 _ z (hP.set hD ha ?_ oq) (hD.set ha) (hS.put z oq (hD.2 q0 _ ha))
  show H1[a]? = some (vp_cell _ _)
  rw [e]
  rw [vp_cell_i, vp_cell_i, arrV_store]
  congr 2
  funext q
  by_cases hq : q = i.toNatClampNeg
  · subst hq
    simp [updV, upd]
  · simp [updV, upd, hq]
end ZV
section ZO
variable {l : Launch} {M : zM} {gr : Bool} {d bc bs : Nat} {Q : Option Value → zS → zW → Prop} {X : String → zS → zW → Prop} {pc : Nat} {lo st : List Value} {S : zS} {w : zW}
theorem zA_getI {idx ci k c0 : Nat} {ty : FieldType} {fin : Bool} {fs : List Nat} (hd : decode M.2.1 pc = .ok (.getfield idx, 3)) (hf : zFL M.1.cls idx ci k ty fin) (hc0 : S[c0]? = some (.inr (ci, fs))) (hk : fs[k]? = some 0) (kk : zA l M gr d bc bs Q X (pc + 3) lo (zI (w c0 (k : Int)) :: st) S w) : zA l M gr d bc bs Q X pc lo (zR c0 :: st) S w := by
  intro p e R s m args below meth c Z G ad A hC H locs ls cells slots hR hS hL hc hs
  obtain ⟨C, T, N, ⟨hvw, hin, -⟩, hkN, hlink, -⟩ := hf
  exact va_get hC.1 hC.2.1 hC.2.2.2.2.1 hin hC.2.2.2.1 hR.2.1 hR.1 c0 (zcs_get hc0) hvw k hkN (hC.2.2.2.2.1 _ hlink) (fun x h => h) (v := .int (Int32.ofInt (w c0 (k : Int)))) (by rw [List.getElem?_mapIdx, hk]; rfl) hd (kk p e R s m args below meth c Z G ad A hC H locs ls cells slots hR hS hL hc hs)
theorem zA_getR {idx ci k c0 n : Nat} {ty : FieldType} {fin : Bool} {fs : List Nat} (hd : decode M.2.1 pc = .ok (.getfield idx, 3)) (hf : zFL M.1.cls idx ci k ty fin) (hc0 : S[c0]? = some (.inr (ci, fs))) (hk : fs[k]? = some (n + 2)) (kk : zA l M gr d bc bs Q X (pc + 3) lo (zR n :: st) S w) : zA l M gr d bc bs Q X pc lo (zR c0 :: st) S w := by
  intro p e R s m args below meth c Z G ad A hC H locs ls cells slots hR hS hL hc hs
  obtain ⟨C, T, N, ⟨hvw, hin, -⟩, hkN, hlink, -⟩ := hf
  exact va_get hC.1 hC.2.1 hC.2.2.2.2.1 hin hC.2.2.2.1 hR.2.1 hR.1 c0 (zcs_get hc0) hvw k hkN (hC.2.2.2.2.1 _ hlink) (fun x h => h) (v := .ref (ad n)) (by rw [List.getElem?_mapIdx, hk]; rfl) hd (kk p e R s m args below meth c Z G ad A hC H locs ls cells slots hR hS hL hc hs)
theorem zA_getN {idx ci k c0 : Nat} {host : String} {fs : List Nat} (hd : decode M.2.1 pc = .ok (.getfield idx, 3)) (hf : zFN M.1.cls idx ci k host) (hc0 : S[c0]? = some (.inr (ci, fs))) (hk : fs[k]? = some 0) (kk : zA l M gr d bc bs Q X (pc + 3) lo (zI (w c0 (k : Int)) :: st) S w) : zA l M gr d bc bs Q X pc lo (zR c0 :: st) S w := by
  intro p e R s m args below meth c Z G ad A hC H locs ls cells slots hR hS hL hc hs
  obtain ⟨C, T, N, ⟨hvw, hin, -⟩, hkN, hlink⟩ := hf
  exact va_getN hC.1 hC.2.1 hC.2.2.2.2.1 hin hC.2.2.2.1 hR.2.1 hR.1 c0 (zcs_get hc0) hvw k hkN (va_Nw.use rfl (hC.2.2.2.2.2.2.2.2.1.2.2.2.2.2.1 _ hlink)) (fun x h => h) (v := .int (Int32.ofInt (w c0 (k : Int)))) (by rw [List.getElem?_mapIdx, hk]; rfl) hd (kk p e R s m args below meth c Z G ad A hC H locs ls cells slots hR hS hL hc hs)
theorem zA_putI {idx ci k c0 : Nat} {ty : FieldType} {fs : List Nat} {v : Int} (hd : decode M.2.1 pc = .ok (.putfield idx, 3)) (hf : zFL M.1.cls idx ci k ty false) (hc0 : S[c0]? = some (.inr (ci, fs))) (hk : fs[k]? = some 0) (hv : inR v) (hn : narrow ty (.int (Int32.ofInt v)) = .int (Int32.ofInt v) ∧ fits ty (.int (Int32.ofInt v)) = true) (kk : zA l M gr d bc bs Q X (pc + 3) lo st S (up w c0 (k : Int) v)) : zA l M gr d bc bs Q X pc lo (zI v :: zR c0 :: st) S w := by
  intro p e R s m args below meth c Z G ad A hC H locs ls cells slots hR hS hL hc hs
  obtain ⟨C, T, N, ⟨hvw, hin, ⟨ty0, hty⟩, hnm⟩, hkN, hlink, hpt, hfin, hcl⟩ := hf
  refine zv_put hC.1 hC.2.1 hC.2.2.2.2.1 hin ty0 hty hnm hC.2.2.2.1 hR.2.1 hR.1 hR.2.2.1 hS c0 (zcs_get hc0) hvw k hkN (hC.2.2.2.2.1 _ hlink) hfin  hpt hn.1 hn.2 (by rw [List.length_mapIdx]; exact (List.getElem?_eq_some_iff.mp hk).1) hd (fun H1 locs1 hz hP1 hD1 hS1 => ?_)
  rw [zcs_set (kd' := .inr (ci, fs)) (w' := up w c0 (k : Int) v) up_row (zent_putI hk), zset_self hc0] at hP1 hD1
  exact kk p e R s m args below meth c Z G ad A hC H1 locs1 ls cells slots ⟨hP1, hR.2.1, hD1, up_inR hR.2.2.2.1 hv, fun h => by rw [hz]; exact hR.2.2.2.2 h⟩ hS1 hL hc hs
theorem zA_putR {idx ci k c0 n : Nat} {ty : FieldType} {fs : List Nat} (hd : decode M.2.1 pc = .ok (.putfield idx, 3)) (hf : zFL M.1.cls idx ci k ty false) (hc0 : S[c0]? = some (.inr (ci, fs))) (hk : k < fs.length) (hn : (∀ a : Nat, narrow ty (.ref a) = .ref a) ∧ (∀ a : Nat, fits ty (.ref a) = true)) (kk : zA l M gr d bc bs Q X (pc + 3) lo st (S.set c0 (.inr (ci, fs.set k (n + 2)))) w) : zA l M gr d bc bs Q X pc lo (zR n :: zR c0 :: st) S w := by
  intro p e R s m args below meth c Z G ad A hC H locs ls cells slots hR hS hL hc hs
  obtain ⟨C, T, N, ⟨hvw, hin, ⟨ty0, hty⟩, hnm⟩, hkN, hlink, hpt, hfin, hcl⟩ := hf
  refine zv_put hC.1 hC.2.1 hC.2.2.2.2.1 hin ty0 hty hnm hC.2.2.2.1 hR.2.1 hR.1 hR.2.2.1 hS c0 (zcs_get hc0) hvw k hkN (hC.2.2.2.2.1 _ hlink) hfin  hpt (hn.1 (ad n)) (hn.2 (ad n)) (by rw [List.length_mapIdx]; exact hk) hd (fun H1 locs1 hz hP1 hD1 hS1 => ?_)
  rw [zcs_set (kd' := .inr (ci, fs.set k (n + 2))) (w' := w) (fun _ _ _ => rfl) (zent_putR hk)] at hP1 hD1
  exact kk p e R s m args below meth c Z G ad A hC H1 locs1 ls cells slots ⟨hP1, hR.2.1, hD1, hR.2.2.2.1, fun h => by rw [hz, List.length_set]; exact hR.2.2.2.2 h⟩ hS1 hL hc hs
theorem zA_putFI {idx ci k c0 : Nat} {ty : FieldType} {fs : List Nat} {v : Int} {T0 : u_T} {N0 : Nat} (hd : decode M.2.1 pc = .ok (.putfield idx, 3)) (hf : zFL M.1.cls idx ci k ty true) (hini : M.1.name = "<init>") (hcl0 : vwCl[ci]? = some (M.1.cls, T0, N0)) (hc0 : S[c0]? = some (.inr (ci, fs))) (hk : fs[k]? = some 0) (hv : inR v) (hn : narrow ty (.int (Int32.ofInt v)) = .int (Int32.ofInt v) ∧ fits ty (.int (Int32.ofInt v)) = true) (kk : zA l M gr d bc bs Q X (pc + 3) lo st S (up w c0 (k : Int) v)) : zA l M gr d bc bs Q X pc lo (zI v :: zR c0 :: st) S w := by
  intro p e R s m args below meth c Z G ad A hC H locs ls cells slots hR hS hL hc hs
  obtain ⟨C, T, N, ⟨hvw, hin, ⟨ty0, hty⟩, hnm⟩, hkN, hlink, hpt, hfin, hcl⟩ := hf
  have hdecl : (T k).1 = M.1.cls := by
    have h1 := Option.some.inj (hvw.symm.trans hcl0)
    rw [hcl]
    exact congrArg (fun q => q.1) h1
  obtain ⟨n9, hini9⟩ : meth.name = "<init>" ∧ True := ⟨(hC.2.2.2.2.2.2.2.2.2.2.2.2.2).trans hini, trivial⟩
  refine zv_putF hC.1 hC.2.1 hC.2.2.2.2.1 hin ty0 hty hnm hC.2.2.2.1 hR.2.1 hR.1 hR.2.2.1 hS c0 (zcs_get hc0) hvw k hkN (hC.2.2.2.2.1 _ hlink) hfin n9 hdecl hpt hn.1 hn.2 (by rw [List.length_mapIdx]; exact (List.getElem?_eq_some_iff.mp hk).1) hd (fun H1 locs1 hz hP1 hD1 hS1 => ?_)
  rw [zcs_set (kd' := .inr (ci, fs)) (w' := up w c0 (k : Int) v) up_row (zent_putI hk), zset_self hc0] at hP1 hD1
  exact kk p e R s m args below meth c Z G ad A hC H1 locs1 ls cells slots ⟨hP1, hR.2.1, hD1, up_inR hR.2.2.2.1 hv, fun h => by rw [hz]; exact hR.2.2.2.2 h⟩ hS1 hL hc hs
theorem zA_putFR {idx ci k c0 n : Nat} {ty : FieldType} {fs : List Nat} {T0 : u_T} {N0 : Nat} (hd : decode M.2.1 pc = .ok (.putfield idx, 3)) (hf : zFL M.1.cls idx ci k ty true) (hini : M.1.name = "<init>") (hcl0 : vwCl[ci]? = some (M.1.cls, T0, N0)) (hc0 : S[c0]? = some (.inr (ci, fs))) (hk : k < fs.length) (hn : (∀ a : Nat, narrow ty (.ref a) = .ref a) ∧ (∀ a : Nat, fits ty (.ref a) = true)) (kk : zA l M gr d bc bs Q X (pc + 3) lo st (S.set c0 (.inr (ci, fs.set k (n + 2)))) w) : zA l M gr d bc bs Q X pc lo (zR n :: zR c0 :: st) S w := by
  intro p e R s m args below meth c Z G ad A hC H locs ls cells slots hR hS hL hc hs
  obtain ⟨C, T, N, ⟨hvw, hin, ⟨ty0, hty⟩, hnm⟩, hkN, hlink, hpt, hfin, hcl⟩ := hf
  have hdecl : (T k).1 = M.1.cls := by
    have h1 := Option.some.inj (hvw.symm.trans hcl0)
    rw [hcl]
    exact congrArg (fun q => q.1) h1
  obtain ⟨n9, hini9⟩ : meth.name = "<init>" ∧ True := ⟨(hC.2.2.2.2.2.2.2.2.2.2.2.2.2).trans hini, trivial⟩
  refine zv_putF hC.1 hC.2.1 hC.2.2.2.2.1 hin ty0 hty hnm hC.2.2.2.1 hR.2.1 hR.1 hR.2.2.1 hS c0 (zcs_get hc0) hvw k hkN (hC.2.2.2.2.1 _ hlink) hfin n9 hdecl hpt (hn.1 (ad n)) (hn.2 (ad n)) (by rw [List.length_mapIdx]; exact hk) hd (fun H1 locs1 hz hP1 hD1 hS1 => ?_)
  rw [zcs_set (kd' := .inr (ci, fs.set k (n + 2))) (w' := w) (fun _ _ _ => rfl) (zent_putR hk)] at hP1 hD1
  exact kk p e R s m args below meth c Z G ad A hC H1 locs1 ls cells slots ⟨hP1, hR.2.1, hD1, hR.2.2.2.1, fun h => by rw [hz, List.length_set]; exact hR.2.2.2.2 h⟩ hS1 hL hc hs
theorem zA_iaload {c0 n : Nat} {i : Int} (hd : decode M.2.1 pc = .ok (.iaload, 1)) (hc0 : S[c0]? = some (.inl (0, n))) (h0 : 0 ≤ i) (h1 : i < (n : Int)) (hn : n < 2147483648 := by decide) (kk : zA l M gr d bc bs Q X (pc + 1) lo (zI (w c0 i) :: st) S w) : zA l M gr d bc bs Q X pc lo (zI i :: zR c0 :: st) S w := by
  intro p e R s m args below meth c Z G ad A hC H locs ls cells slots hR hS hL hc hs
  obtain ⟨hi1, hi2⟩ := zix h0 h1 hn
  have hi3 : ((i.toNat : Nat) : Int) = i := Int.toNat_of_nonneg h0
  refine va_iald hC.1 hC.2.1 hR.2.1 hR.1 c0 0 (zcs_get hc0) rfl hi1 hd ?_
  have := kk p e R s m args below meth c Z G ad A hC H locs ls cells slots hR hS hL hc hs
  rw [hi2, hi3]
  exact this
theorem zA_baload {c0 n : Nat} {i : Int} (hd : decode M.2.1 pc = .ok (.baload, 1)) (hc0 : S[c0]? = some (.inl (1, n))) (h0 : 0 ≤ i) (h1 : i < (n : Int)) (hn : n < 2147483648 := by decide) (kk : zA l M gr d bc bs Q X (pc + 1) lo (zI (w c0 i) :: st) S w) : zA l M gr d bc bs Q X pc lo (zI i :: zR c0 :: st) S w := by
  intro p e R s m args below meth c Z G ad A hC H locs ls cells slots hR hS hL hc hs
  obtain ⟨hi1, hi2⟩ := zix h0 h1 hn
  have hi3 : ((i.toNat : Nat) : Int) = i := Int.toNat_of_nonneg h0
  refine va_zald hC.1 hC.2.1 hR.2.1 hR.1 c0 1 (zcs_get hc0) rfl hi1 hd ?_
  have := kk p e R s m args below meth c Z G ad A hC H locs ls cells slots hR hS hL hc hs
  rw [hi2, hi3]
  exact this
theorem zA_laload {c0 n : Nat} {i : Int} (hd : decode M.2.1 pc = .ok (.laload, 1)) (hc0 : S[c0]? = some (.inl (2, n))) (h0 : 0 ≤ i) (h1 : i < (n : Int)) (hn : n < 2147483648 := by decide) (kk : zA l M gr d bc bs Q X (pc + 1) lo (zL (w c0 i) :: st) S w) : zA l M gr d bc bs Q X pc lo (zI i :: zR c0 :: st) S w := by
  intro p e R s m args below meth c Z G ad A hC H locs ls cells slots hR hS hL hc hs
  obtain ⟨hi1, hi2⟩ := zix h0 h1 hn
  have hi3 : ((i.toNat : Nat) : Int) = i := Int.toNat_of_nonneg h0
  refine va_lald hC.1 hC.2.1 hR.2.1 hR.1 c0 2 (zcs_get hc0) rfl hi1 hd ?_
  have := kk p e R s m args below meth c Z G ad A hC H locs ls cells slots hR hS hL hc hs
  rw [hi2, hi3]
  exact this
theorem zA_aaload {c0 n : Nat} {i : Int} {q : Nat} (hd : decode M.2.1 pc = .ok (.aaload, 1)) (hc0 : S[c0]? = some (.inl (3, n))) (h0 : 0 ≤ i) (h1 : i < (n : Int)) (hq : w c0 i = (q : Int)) (hn : n < 2147483648 := by decide) (kk : zA l M gr d bc bs Q X (pc + 1) lo (zR q :: st) S w) : zA l M gr d bc bs Q X pc lo (zI i :: zR c0 :: st) S w := by
  intro p e R s m args below meth c Z G ad A hC H locs ls cells slots hR hS hL hc hs
  obtain ⟨hi1, hi2⟩ := zix h0 h1 hn
  have hi3 : ((i.toNat : Nat) : Int) = i := Int.toNat_of_nonneg h0
  refine va_aldq hC.1 hC.2.1 hR.2.1 hR.1 c0 3 (zcs_get hc0) rfl hi1 hd ?_
  have := kk p e R s m args below meth c Z G ad A hC H locs ls cells slots hR hS hL hc hs
  rw [hi2]
  simp only [hi3, hq]
  rw [if_neg (by omega)]
  exact this
theorem zent_ast {G : zG} {ad : Nat → Nat} {w : zW} {c n : Nat} {i v : Int} (h0 : 0 ≤ i) (t : Nat) (ht : t = 0 ∨ t = 1) : (Sum.inl (G.2 t, n, .inl (upd (fun j => Int32.ofInt (w c (j : Int))) i.toNat (Int32.ofInt v))) : va_E) = zent G ad (up w c i v) c (.inl (t, n)) := by
  have : (upd (fun j => Int32.ofInt (w c (j : Int))) i.toNat (Int32.ofInt v)) = fun j : Nat => Int32.ofInt (up w c i v c (j : Int)) := by
    funext j
    unfold upd
    by_cases hj : j = i.toNat
    · rw [if_pos hj, hj, Int.toNat_of_nonneg h0, up_same]
    · rw [if_neg hj, up_idx w c c v (by omega)]
  rw [this]
  rcases ht with rfl | rfl <;> rfl
theorem zent_lst {G : zG} {ad : Nat → Nat} {w : zW} {c n : Nat} {i v : Int} (h0 : 0 ≤ i) : (Sum.inl (G.2 2, n, .inr (.inl (vp_updL (fun j => Int64.ofInt (w c (j : Int))) i.toNat (Int64.ofInt v)))) : va_E) = zent G ad (up w c i v) c (.inl (2, n)) := by
  have : (vp_updL (fun j => Int64.ofInt (w c (j : Int))) i.toNat (Int64.ofInt v)) = fun j : Nat => Int64.ofInt (up w c i v c (j : Int)) := by
    funext j
    unfold vp_updL
    by_cases hj : j = i.toNat
    · rw [if_pos hj, hj, Int.toNat_of_nonneg h0, up_same]
    · rw [if_neg hj, up_idx w c c v (by omega)]
  rw [this]
  rfl
theorem zA_iastore {c0 n : Nat} {i v : Int} (hd : decode M.2.1 pc = .ok (.iastore, 1)) (hv : inR v) (hc0 : S[c0]? = some (.inl (0, n))) (h0 : 0 ≤ i) (h1 : i < (n : Int)) (hn : n < 2147483648 := by decide) (kk : zA l M gr d bc bs Q X (pc + 1) lo st S (up w c0 i v)) : zA l M gr d bc bs Q X pc lo (zI v :: zI i :: zR c0 :: st) S w := by
  intro p e R s m args below meth c Z G ad A hC H locs ls cells slots hR hS hL hc hs
  obtain ⟨hi1, hi2⟩ := zix h0 h1 hn
  have hi3 : ((i.toNat : Nat) : Int) = i := Int.toNat_of_nonneg h0
  refine zv_iast hC.1 hC.2.1 hR.2.1 hR.1 hR.2.2.1 hS c0 0 (zcs_get hc0) rfl hi1 hd (fun H1 locs1 hz hP1 hD1 hS1 => ?_)
  rw [hi2, zcs_set (kd' := .inl (0, n)) (w' := up w c0 i v) up_row (zent_ast h0 0 (Or.inl rfl)), zset_self hc0] at hP1 hD1
  exact kk p e R s m args below meth c Z G ad A hC H1 locs1 ls cells slots ⟨hP1, hR.2.1, hD1, up_inR hR.2.2.2.1 hv, fun h => by rw [hz]; exact hR.2.2.2.2 h⟩ hS1 hL hc hs
theorem zA_bastore {c0 n : Nat} {i v : Int} (hd : decode M.2.1 pc = .ok (.bastore, 1)) (hgr : gr = false) (hv : v = 0 ∨ v = 1) (hc0 : S[c0]? = some (.inl (1, n))) (h0 : 0 ≤ i) (h1 : i < (n : Int)) (hn : n < 2147483648 := by decide) (kk : zA l M gr d bc bs Q X (pc + 1) lo st S (up w c0 i v)) : zA l M gr d bc bs Q X pc lo (zI v :: zI i :: zR c0 :: st) S w := by
  intro p e R s m args below meth c Z G ad A hC H locs ls cells slots hR hS hL hc hs
  obtain ⟨hi1, hi2⟩ := zix h0 h1 hn
  have hi3 : ((i.toNat : Nat) : Int) = i := Int.toNat_of_nonneg h0
  refine va_zast hC.1 hC.2.1 hR.2.1 hR.1 hR.2.2.1 hS c0 1 (zcs_get hc0) rfl hi1 hd (fun H1 locs1 hP1 hD1 hS1 => ?_)
  have hnar : vp_nar .boolean (Int32.ofInt v) = Int32.ofInt v := by rcases hv with rfl | rfl <;> rfl
  rw [hnar, hi2, zcs_set (kd' := .inl (1, n)) (w' := up w c0 i v) up_row (zent_ast h0 1 (Or.inr rfl)), zset_self hc0] at hP1 hD1
  exact kk p e R s m args below meth c Z G ad A hC H1 locs1 ls cells slots ⟨hP1, hR.2.1, hD1, up_inR hR.2.2.2.1 (by rcases hv with rfl | rfl <;> exact ⟨by decide, by decide⟩), fun h => by rw [hgr] at h; cases h⟩ hS1 hL hc hs
theorem zA_lastore {c0 n : Nat} {i v : Int} (hd : decode M.2.1 pc = .ok (.lastore, 1)) (hgr : gr = false) (hv : inR v) (hc0 : S[c0]? = some (.inl (2, n))) (h0 : 0 ≤ i) (h1 : i < (n : Int)) (hn : n < 2147483648 := by decide) (kk : zA l M gr d bc bs Q X (pc + 1) lo st S (up w c0 i v)) : zA l M gr d bc bs Q X pc lo (zL v :: zI i :: zR c0 :: st) S w := by
  intro p e R s m args below meth c Z G ad A hC H locs ls cells slots hR hS hL hc hs
  obtain ⟨hi1, hi2⟩ := zix h0 h1 hn
  have hi3 : ((i.toNat : Nat) : Int) = i := Int.toNat_of_nonneg h0
  refine va_last hC.1 hC.2.1 hR.2.1 hR.1 hR.2.2.1 hS c0 2 (zcs_get hc0) rfl hi1 hd (fun H1 locs1 hP1 hD1 hS1 => ?_)
  rw [hi2, zcs_set (kd' := .inl (2, n)) (w' := up w c0 i v) up_row (zent_lst h0), zset_self hc0] at hP1 hD1
  exact kk p e R s m args below meth c Z G ad A hC H1 locs1 ls cells slots ⟨hP1, hR.2.1, hD1, up_inR hR.2.2.2.1 hv, fun h => by rw [hgr] at h; cases h⟩ hS1 hL hc hs
theorem zA_alen {c0 t n : Nat} (hd : decode M.2.1 pc = .ok (.arraylength, 1)) (hc0 : S[c0]? = some (.inl (t, n))) (ht : t < 4) (kk : zA l M gr d bc bs Q X (pc + 1) lo (zI (n : Int) :: st) S w) : zA l M gr d bc bs Q X pc lo (zR c0 :: st) S w := by
  intro p e R s m args below meth c Z G ad A hC H locs ls cells slots hR hS hL hc hs
  match t, ht, hc0 with
  | 0, _, hc0 => exact va_alen hC.1 hC.2.1 hR.2.1 hR.1 c0 0 (zcs_get hc0) (ty := .int) rfl (v := Int32.ofInt (n : Int)) Int32.ofInt_eq_ofNat.symm hd (kk p e R s m args below meth c Z G ad A hC H locs ls cells slots hR hS hL hc hs)
  | 1, _, hc0 => exact va_alen hC.1 hC.2.1 hR.2.1 hR.1 c0 1 (zcs_get hc0) (ty := .boolean) rfl (v := Int32.ofInt (n : Int)) Int32.ofInt_eq_ofNat.symm hd (kk p e R s m args below meth c Z G ad A hC H locs ls cells slots hR hS hL hc hs)
  | 2, _, hc0 => exact va_alen hC.1 hC.2.1 hR.2.1 hR.1 c0 2 (zcs_get hc0) (ty := .long) rfl (v := Int32.ofInt (n : Int)) Int32.ofInt_eq_ofNat.symm hd (kk p e R s m args below meth c Z G ad A hC H locs ls cells slots hR hS hL hc hs)
  | 3, _, hc0 => exact va_alen hC.1 hC.2.1 hR.2.1 hR.1 c0 3 (zcs_get hc0) (ty := .object "java/lang/String") rfl (v := Int32.ofInt (n : Int)) Int32.ofInt_eq_ofNat.symm hd (kk p e R s m args below meth c Z G ad A hC H locs ls cells slots hR hS hL hc hs)
theorem zA_gets {idx : Nat} {q : String × String × Nat × List Int} (hd : decode M.2.1 pc = .ok (.getstatic idx, 3)) (hq : q ∈ zsta) (hl : Cond.fieldLink M.1.cls idx q.1 q.2.1 "[I" ∈ zTB) (kk : zA l M gr d bc bs Q X (pc + 3) lo (zR q.2.2.1 :: st) S w) : zA l M gr d bc bs Q X pc lo st S w := by
  intro p e R s m args below meth c Z G ad A hC H locs ls cells slots hR hS hL hc hs
  exact va_gets hC.1 hC.2.1 (hC.2.2.2.2.2.2.2.2.1.2.2.1 q hq).1 hS hC.2.2.2.1 (hC.2.2.2.2.1 _ hl) (fun x h => h) hd (kk p e R s m args below meth c Z G ad A hC H locs ls cells slots hR hS hL hc hs)
theorem zA_sload {q : String × String × Nat × List Int} {c0 : Nat} {i : Int} (hd : decode M.2.1 pc = .ok (.iaload, 1)) (hq : q ∈ zsta) (hc0 : q.2.2.1 = c0) (h0 : 0 ≤ i) (h1 : i < (q.2.2.2.length : Int)) (hn : q.2.2.2.length < 2147483648) (kk : zA l M gr d bc bs Q X (pc + 1) lo (zI (q.2.2.2.getD i.toNat 0) :: st) S w) : zA l M gr d bc bs Q X pc lo (zI i :: zR c0 :: st) S w := by
  intro p e R s m args below meth c Z G ad A hC H locs ls cells slots hR hS hL hc hs
  obtain ⟨hi1, hi2⟩ := zix h0 h1 hn
  subst hc0
  exact va_ti hC.1 hC.2.1 (hC.2.2.2.2.2.2.2.2.1.2.2.1 q hq).2 hS hi1 (by rw [hi2]; rfl) hd (kk p e R s m args below meth c Z G ad A hC H locs ls cells slots hR hS hL hc hs)
theorem zA_mmax {idx : Nat} {a b : Int} (hd : decode M.2.1 pc = .ok (.invokestatic idx, 3)) (hl : Cond.methodLink M.1.cls idx Lib.Math.max.name ∈ zTB) (hst : Cond.static Lib.Math.max.name ∈ zTB ∧ Cond.initialized "java/lang/Math" ∈ zTB ∧ Cond.code Lib.Math.max.name Lib.Math.max.code 2 (some .int) ∈ zTB) (ha : inR a) (hb : inR b) (hcat : (st.map fun v => v.category).sum ≤ 8) (kk : zA l M gr d bc bs Q X (pc + 3) lo (zI (max a b) :: st) S w) : zA l M gr d bc bs Q X pc lo (zI b :: zI a :: st) S w := by
  intro p e R s m args below meth c Z G ad A hC H locs ls cells slots hR hS hL hc hs
  have hB := hC.2.2.2.2.1
  refine va_mmax hC.1 hC.2.1 (hC.2.2.1.trans hL.1.1.symm) hC.2.2.2.1 (hB _ hl) (hB _ hst.1) (hB _ hst.2.1) (hB _ hst.2.2) (by have := hC.2.2.2.2.2.2.2.1.1; omega) (by have := hC.2.2.2.2.2.2.2.1.2; rw [zcv_sum]; omega) (by omega) (by omega) hd (zW1 ?_ (kk p e R s m args below meth c Z G ad A hC H locs ls cells slots hR hS hL hc hs))
  by_cases h : a < b
  · rw [if_pos ((zlt ha hb).mpr h)]; congr 1; omega
  · rw [if_neg (fun h2 => h ((zlt ha hb).mp h2))]; congr 1; omega
theorem zA_mmin {idx : Nat} {a b : Int} (hd : decode M.2.1 pc = .ok (.invokestatic idx, 3)) (hl : Cond.methodLink M.1.cls idx Lib.Math.min.name ∈ zTB) (hst : Cond.static Lib.Math.min.name ∈ zTB ∧ Cond.initialized "java/lang/Math" ∈ zTB ∧ Cond.code Lib.Math.min.name Lib.Math.min.code 2 (some .int) ∈ zTB) (ha : inR a) (hb : inR b) (hcat : (st.map fun v => v.category).sum ≤ 8) (kk : zA l M gr d bc bs Q X (pc + 3) lo (zI (min a b) :: st) S w) : zA l M gr d bc bs Q X pc lo (zI b :: zI a :: st) S w := by
  intro p e R s m args below meth c Z G ad A hC H locs ls cells slots hR hS hL hc hs
  have hB := hC.2.2.2.2.1
  refine va_mmin hC.1 hC.2.1 (hC.2.2.1.trans hL.1.1.symm) hC.2.2.2.1 (hB _ hl) (hB _ hst.1) (hB _ hst.2.1) (hB _ hst.2.2) (by have := hC.2.2.2.2.2.2.2.1.1; omega) (by have := hC.2.2.2.2.2.2.2.1.2; rw [zcv_sum]; omega) (by omega) (by omega) hd (zW1 ?_ (kk p e R s m args below meth c Z G ad A hC H locs ls cells slots hR hS hL hc hs))
  by_cases h : b < a
  · rw [if_pos ((zlt hb ha).mpr h)]; congr 1; omega
  · rw [if_neg (fun h2 => h ((zlt hb ha).mp h2))]; congr 1; omega
theorem zA_mabs {idx : Nat} {a : Int} (hd : decode M.2.1 pc = .ok (.invokestatic idx, 3)) (hl : Cond.methodLink M.1.cls idx Lib.Math.abs.name ∈ zTB) (hst : Cond.static Lib.Math.abs.name ∈ zTB ∧ Cond.initialized "java/lang/Math" ∈ zTB ∧ Cond.code Lib.Math.abs.name Lib.Math.abs.code 1 (some .int) ∈ zTB) (ha : inR a) (hcat : (st.map fun v => v.category).sum ≤ 8) (kk : zA l M gr d bc bs Q X (pc + 3) lo (zI (if 0 ≤ a then a else -a) :: st) S w) : zA l M gr d bc bs Q X pc lo (zI a :: st) S w := by
  intro p e R s m args below meth c Z G ad A hC H locs ls cells slots hR hS hL hc hs
  have hB := hC.2.2.2.2.1
  refine va_mabs hC.1 hC.2.1 (hC.2.2.1.trans hL.1.1.symm) hC.2.2.2.1 (hB _ hl) (hB _ hst.1) (hB _ hst.2.1) (hB _ hst.2.2) (by have := hC.2.2.2.2.2.2.2.1.1; omega) (by have := hC.2.2.2.2.2.2.2.1.2; rw [zcv_sum]; omega) (by omega) (by omega) hd (zW1 ?_ (kk p e R s m args below meth c Z G ad A hC H locs ls cells slots hR hS hL hc hs))
  have h00 : inR 0 := ⟨by decide, by decide⟩
  have hz : (0 : Int32) = Int32.ofInt 0 := rfl
  by_cases h : 0 ≤ a
  · rw [if_pos (by rw [hz]; exact (zle h00 ha).mpr h), if_pos h]
  · rw [if_neg (by rw [hz]; exact fun h2 => h ((zle h00 ha).mp h2)), if_neg h, hz, ← Int32.ofInt_sub]; congr 1; omega
def cpy (w : zW) (c0 : Nat) (sp : Int) (c1 : Nat) (dp n : Int) : zW := fun c i => if c = c1 ∧ dp ≤ i ∧ i < dp + n then w c0 (sp + (i - dp)) else w c i
theorem zA_copy {idx c0 c1 n0 n1 : Nat} {sp dp n : Int} (hd : decode M.2.1 pc = .ok (.invokestatic idx, 3)) (hgr : gr = false) (hl : Cond.methodLink M.1.cls idx arraycopyName ∈ zTB) (hst : Cond.native arraycopyName ∈ zTB ∧ Cond.static arraycopyName ∈ zTB ∧ Cond.initialized "java/lang/System" ∈ zTB) (hc0 : S[c0]? = some (.inl (0, n0))) (hc1 : S[c1]? = some (.inl (0, n1))) (h1 : 0 ≤ sp) (h2 : 0 ≤ dp) (h3 : 0 ≤ n) (h4 : sp + n ≤ (n0 : Int)) (h5 : dp + n ≤ (n1 : Int)) (hn0 : n0 < 2147483648) (hn1 : n1 < 2147483648) (hcat : (st.map fun v => v.category).sum ≤ 8) (kk : zA l M gr d bc bs Q X (pc + 3) lo st S (cpy w c0 sp c1 dp n)) : zA l M gr d bc bs Q X pc lo (zI n :: zI dp :: zR c1 :: zI sp :: zR c0 :: st) S w := by
  intro p e R s m args below meth c Z G ad A hC H locs ls cells slots hR hS hL hc hs
  have hB := hC.2.2.2.2.1
  have r1 : inR sp := ⟨by omega, by omega⟩
  have r2 : inR dp := ⟨by omega, by omega⟩
  have r3 : inR n := ⟨by omega, by omega⟩
  have hz : (0 : Int32) = Int32.ofInt 0 := rfl
  have h00 : inR 0 := ⟨by decide, by decide⟩
  have t1 : (Int32.ofInt sp).toNatClampNeg = sp.toNat := by rw [← Int32.toNat_toInt, inR_n r1]
  have t2 : (Int32.ofInt dp).toNatClampNeg = dp.toNat := by rw [← Int32.toNat_toInt, inR_n r2]
  have t3 : (Int32.ofInt n).toNatClampNeg = n.toNat := by rw [← Int32.toNat_toInt, inR_n r3]
  refine va_copyi hC.1 hC.2.1 (hC.2.2.1.trans hL.1.1.symm) hC.2.2.2.1 (hB _ hl) (hB _ hst.1) (hB _ hst.2.1) (hB _ hst.2.2) hR.2.1 hR.1 hR.2.2.1 hS c0 c1 0 0 (ty := .int) (zcs_get hc0) (zcs_get hc1) rfl rfl rfl (by rw [hz, zlt r1 h00]; omega) (by rw [hz, zlt r2 h00]; omega) (by rw [hz, zlt r3 h00]; omega) (by rw [t1, t3]; omega) (by rw [t2, t3]; omega) (fun _ _ => rfl) (by have := hC.2.2.2.2.2.2.2.1.1; omega)
    (by have := hC.2.2.2.2.2.2.2.1.2; rw [zcv_sum]; have e : nativeFrameWords "java/lang/System" "arraycopy" 5 + 11 ≤ 50 := by decide +kernel
        omega) hd (fun H1 locs1 hP1 hD1 hS1 => ?_)
  have hent : (Sum.inl (G.2 0, n1, .inl (va_cpy (fun j => Int32.ofInt (w c0 (j : Int))) (fun j => Int32.ofInt (w c1 (j : Int))) (Int32.ofInt sp).toNatClampNeg (Int32.ofInt dp).toNatClampNeg (Int32.ofInt n).toNatClampNeg)) : va_E) = zent G ad (cpy w c0 sp c1 dp n) c1 (.inl (0, n1)) := by
    rw [t1, t2, t3]
    have : (va_cpy (fun j => Int32.ofInt (w c0 (j : Int))) (fun j => Int32.ofInt (w c1 (j : Int))) sp.toNat dp.toNat n.toNat) = fun j : Nat => Int32.ofInt (cpy w c0 sp c1 dp n c1 (j : Int)) := by
      funext j
      unfold va_cpy cpy
      by_cases hj : dp.toNat ≤ j ∧ j < dp.toNat + n.toNat
      · rw [if_pos hj, if_pos ⟨rfl, by omega, by omega⟩]
        exact congrArg (fun z => Int32.ofInt (w c0 z)) (by omega)
      · rw [if_neg hj, if_neg (by intro hh; exact hj (by omega))]
    rw [this]
    rfl
  rw [zcs_set (kd' := .inl (0, n1)) (w' := cpy w c0 sp c1 dp n) (fun i j hi => by unfold cpy; rw [if_neg (fun hh => hi hh.1)]) hent, zset_self hc1] at hP1 hD1
  refine kk p e R s m args below meth c Z G ad A hC H1 locs1 ls cells slots ⟨hP1, hR.2.1, hD1, ?_, fun h => by rw [hgr] at h; cases h⟩ hS1 hL hc hs
  intro c' i'
  unfold cpy
  split
  · exact hR.2.2.2.1 _ _
  · exact hR.2.2.2.1 _ _
end ZO
