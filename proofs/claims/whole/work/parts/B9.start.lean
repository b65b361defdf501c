/-! the start -/
theorem ws_prim {args : Array Value} {s : State} {ty : FieldType} (h : (Cond.arrayClass ty).before args s = true) : ∃ cA : ClassId, ArrOfT s cA ty ∧ s.vm.findClass ("[" ++ ty.toString) = some cA := by
  obtain ⟨cA, kA, comp, h1, h2, h3⟩ := Cond.arrayClass_spec h
  exact ⟨cA, fun n z => ⟨fun k h => (by cases h), kA, h2, comp, h3⟩, h1⟩
theorem ws_obj {s : State} {C : String} (h : va_AO C s) : ∃ cA : ClassId, ArrOfT s cA (.object C) ∧ va_RA s cA (.object C) := by
  obtain ⟨comp, c, k, h1, h2, h3, h4, h5⟩ := Cond.arrayOver_spec h
  exact ⟨c, fun n z => ⟨fun k h => (by cases h), k, h3, comp, h4⟩, k, comp, h3, h4, h1, h5⟩
set_option maxRecDepth 1000000 in
theorem ws_inst : ∀ r ∈ vwCl, Cond.instantiable r.1 r.2.2 ∈ lw_tbl := by
  intro r hr
  simp only [vwCl, List.mem_cons, List.not_mem_nil, or_false] at hr
  rcases hr with rfl | rfl | rfl | rfl | rfl | rfl | rfl | rfl | rfl | rfl | rfl | rfl <;> decide +kernel
set_option maxHeartbeats 4000000 in
theorem ws_G {s : State} {b : Nat} (hts : ∀ w ∈ lw_tbl, w.before #[Value.ref b] s = true) : ∃ G : zG, va_K G.1 vwCl (ztys G) s := by
  have hz : ∀ w ∈ zTB, w.before #[Value.ref b] s = true := fun w hw => hts w (zTB_tbl hw)
  have hU : ∀ (c : Nat) (r : vw_C), vwCl[c]? = some r → ∃ (cC : ClassId) (iS : Nat → Nat), u_Kn s r.1 r.2.1 r.2.2 cC iS := by
    intro c r hr
    have hi := hts _ (ws_inst r (List.mem_of_getElem? hr))
    match c, hr with
    | 0, hr => cases hr; exact u_known hz zclX0.2.1 hi
    | 1, hr => cases hr; exact u_known hz zclX2.2.1 hi
    | 2, hr => cases hr; exact u_known hz zclX3.2.1 hi
    | 3, hr => cases hr; exact u_known hz zclX4.2.1 hi
    | 4, hr => cases hr; exact u_known hz zclX5.2.1 hi
    | 5, hr => cases hr; exact u_known hz zclX6.2.1 hi
    | 6, hr => cases hr; exact u_known hz zclX7.2.1 hi
    | 7, hr => cases hr; exact u_known hz zclX8.2.1 hi
    | 8, hr => cases hr; exact u_known hz zclX9.2.1 hi
    | 9, hr => cases hr; exact u_known hz zclX10.2.1 hi
    | 10, hr => cases hr; exact u_known hz zclX11.2.1 hi
    | 11, hr => cases hr; exact u_known hz zclX12.2.1 hi
    | c + 12, hr => simp [vwCl] at hr
  obtain ⟨cI0, iI0, -⟩ := hU 0 _ rfl
  have h0 : ∀ c : Nat, ∃ q : ClassId × (Nat → Nat), ∀ r, vwCl[c]? = some r → u_Kn s r.1 r.2.1 r.2.2 q.1 q.2 := fun c => by
    cases hq : vwCl[c]? with
    | none => exact ⟨(cI0, iI0), fun r h => by cases h⟩
    | some r =>
      obtain ⟨a, i, h⟩ := hU c r hq
      exact ⟨(a, i), fun r' h' => by cases h'; exact h⟩
  obtain ⟨q, hq⟩ := Classical.axiomOfChoice h0
  obtain ⟨c0, a0, b0⟩ := ws_prim (hz _ zin_int)
  obtain ⟨c1, a1, b1⟩ := ws_prim (hz _ zin_bool)
  obtain ⟨c2, a2, b2⟩ := ws_prim (hz _ zin_long)
  obtain ⟨c3, a3, b3⟩ := ws_obj (va_AO.of (hts _ ws_x5))
  refine ⟨((fun c => (q c).1, fun c => (q c).2), fun k => if k = 0 then c0 else if k = 1 then c1 else if k = 2 then c2 else c3), fun c r h => hq c r h, fun k t h => ?_⟩
  match k, h with
  | 0, h => cases h; exact ⟨a0, b0⟩
  | 1, h => cases h; exact ⟨a1, b1⟩
  | 2, h => cases h; exact ⟨a2, b2⟩
  | 3, h => cases h; exact ⟨a3, b3⟩
  | k + 4, h => simp [ztys] at h
set_option maxHeartbeats 4000000 in
set_option maxRecDepth 100000 in
/-- THE LAW, from its entry ('hexc', 'hnm': its table of handlers is empty, its name; lw_walk has both of the body) -/
theorem ws_start {p : Program} {e : Env} {s : State} {m : MethodId} {below : List Frame} {meth : Method} {c : Code} (l : Launch) (hflags : l.flags = flags0) {b L : Nat} {xs : Nat → Int32} (hL : L ≤ 3072) (hexc : c.exceptionTable.toList = []) (hnm : meth.name = yL_law.name) (C0 : lw_At p s m meth c b L xs) : W p l e room_1 s m #[Value.ref b] below meth c s.heap [] 0 0 (lw_Z below #[Value.ref b] s) (entryFrame m ([Value.ref b] : List Value).toArray 7) := by
  obtain ⟨hx, hb, hr, hml, hown, hts, hX, hbl, hlocks, hgv⟩ := id C0
  have hnt : l.stackTraces = false := by unfold Launch.stackTraces; rw [hflags]; decide
  obtain ⟨ad, had, hab, hSt⟩ := ws_zst hts hgv
  obtain ⟨G, hK⟩ := ws_G hts
  have hA : ∀ a : Nat, zFA ad 0 s.heap.size a → s.heap.size ≤ a := fun a h => by
    rcases h with ⟨i, h, -⟩ | h
    · exact absurd h (Nat.not_lt_zero i)
    · exact h
  have hC : ∀ gr : Bool, zCx l mL_law gr 16 QL zNo p e room_1 s m #[Value.ref b] below meth c (lw_Z below #[Value.ref b] s) G ad (zFA ad 0 s.heap.size) := fun gr => ⟨hx, hb, hml, hown, fun w hw => hts w (zTB_tbl hw), hnt, ⟨0, rfl⟩, ⟨Nat.le_of_ble_eq_true rfl, Nat.le_of_ble_eq_true rfl⟩, hSt.narrow hA, hexc, fun v S w H locs ls cells slots pc hQ hR hS hc hs hd => ws_fin hx hb hr hlocks hA hQ hS hc hs hd, fun E S w H locs ls cells slots pc rest q ce h => False.elim h, fun cls text wide ik is ic sa S w H locs ls cells slots pc rest h => False.elim h, hnm⟩
  have hE : zE L xs l mL_law 16 QL zNo p e room_1 s m #[Value.ref b] below meth c (lw_Z below #[Value.ref b] s) G ad (zFA ad 0 s.heap.size) := ⟨by rw [hab], by rw [hab]; exact hX, by rw [hab]; exact hbl, by rw [hab]; exact fun h => absurd (hA _ h) (Nat.not_le.mpr hbl), hC false⟩
  have hl := lv_entry ([.ref b]) (n := 7) (Nat.le_of_ble_eq_true rfl)
  rw [lg_entry_eq]
  generalize (lg_sl ([.ref b]) ++ List.replicate (7 - (lg_sl ([.ref b])).length) Slot.unset).toArray = ls at hl ⊢
  have hl : lv_has ls 7 [(0, .ref b)] := hl
  have hLk : zLk ad ls mL_law.2.2.1 [zR 4000, .null, .null, .null, .null, .null, .null] := by
    refine ⟨lv_sub hl [] rfl, fun k v hk hz => ?_⟩
    match k, hk with
    | 0, hk =>
      cases hk
      show ls[0]? = some (.val (.ref (ad 4000)))
      rw [hab]
      exact lv_at hl 0 rfl
    | 1, hk => cases hk; cases hz
    | 2, hk => cases hk; cases hz
    | 3, hk => cases hk; cases hz
    | 4, hk => cases hk; cases hz
    | 5, hk => cases hk; cases hz
    | 6, hk => cases hk; cases hz
    | k + 7, hk => simp at hk
  have hR : zRp G ad true [] (fun c _ => if c = 74 then -1 else 0) (zFA ad 0 s.heap.size) s s.heap := by
    refine ⟨fun k q h => by simp [zcs] at h, hK, ⟨fun i j p q h => by simp [zcs] at h, fun k q h => by simp [zcs] at h⟩, fun c i => ?_, fun _ => ⟨?_, fun i hi => ?_⟩⟩
    · show inR (if c = 74 then -1 else 0)
      by_cases h : c = 74
      · rw [if_pos h]; exact ⟨by decide, by decide⟩
      · rw [if_neg h]; exact ⟨by decide, by decide⟩
    · exact (had 0 (by decide)).symm
    · rw [had i hi, had 0 (by decide)]; rfl
  exact law_pre (xs := xs) (l := l) hL (fun c x => rfl) p e room_1 s m #[Value.ref b] below meth c (lw_Z below #[Value.ref b] s) G ad (zFA ad 0 s.heap.size) ⟨hC true, hE⟩ s.heap [] ls 0 0 hR va_S.rf hLk (Nat.le_of_ble_eq_true rfl) (Nat.le_of_ble_eq_true rfl)
