/-! the first words: the tables' good words, methods, links -/
abbrev zM : Type := MethodName × ByteArray × Nat × Option FieldType × List (Nat × Nat × Nat × Nat)
def zTB : List Cond := lw_tbl.filter goodWord
theorem zTB_tbl {w : Cond} (h : w ∈ zTB) : w ∈ lw_tbl := (List.mem_filter.mp h).1
theorem zTB_good {w : Cond} (h : w ∈ zTB) : goodWord w = true := (List.mem_filter.mp h).2
theorem zin {w : Cond} (i : Nat) (h : lw_tbl[i]? = some w) (g : goodWord w = true) : w ∈ zTB := List.mem_filter.mpr ⟨List.mem_of_getElem? h, g⟩
theorem zin_r {ws : List Cond} (ps : List Nat) (hp : ws = ps.filterMap (fun i => lw_tbl[i]?)) (h : ws.all goodWord = true) : ∀ w ∈ ws, w ∈ zTB := by
  intro w hw
  have h1 := List.all_eq_true.mp h w hw
  rw [hp] at hw
  obtain ⟨i, -, hi⟩ := List.mem_filterMap.mp hw
  exact zin i hi h1
def zcode (M : zM) : Cond := match M.2.2.2.2 with
  | [] => .code M.1 M.2.1 M.2.2.1 M.2.2.2.1
  | h :: t => .codeWith M.1 M.2.1 M.2.2.1 M.2.2.2.1 (h :: t)
def znF : List (String × Nat × String × String × String × String) := [(RX11, 118, RX8, "place", "I", RX11)]
def znM : List (String × Nat × MethodName × String) := [(RX11, 22, yX8_init, RX11), (RX11, 39, yX6_init, RX11), (RX11, 49, yX7_init, RX11), (RX11, 56, yX9_init, RX11), (RX11, 63, yX2_init, RX11), (RX11, 70, yX0_init, RX11), (RX11, 84, yX3_init, RX11), (RX11, 98, yX5_init, RX11)]
/-- what a method's words say: an object's method, a static one, a constructor; what a call's link says -/
def zMV (M : zM) (C : String) (n : Nat) : Prop :=
  (Cond.instanceMethod M.1 ∈ zTB ∧ Cond.selects C M.1 M.1 ∈ zTB ∧ Cond.initialized C ∈ zTB ∧ zcode M ∈ zTB) ∧ M.2.2.2.2 = [] ∧ M.2.2.1 ≤ 40 ∧ M.1.cls = C ∧ M.1.cls ≠ "java/lang/invoke/MethodHandle" ∧ M.1.cls ≠ "java/lang/invoke/VarHandle" ∧ (parseMethodDescriptor M.1.desc).map (fun d => d.parameters.length) = some n
def zMS (M : zM) (n : Nat) : Prop :=
  (Cond.static M.1 ∈ zTB ∧ Cond.initialized M.1.cls ∈ zTB ∧ zcode M ∈ zTB) ∧ M.2.2.1 ≤ 40 ∧ M.1.cls ≠ "java/lang/invoke/MethodHandle" ∧ M.1.cls ≠ "java/lang/invoke/VarHandle" ∧ (parseMethodDescriptor M.1.desc).map (fun d => d.parameters.length) = some n
def zLk1 (own : String) (idx : Nat) (M : zM) : Prop := Cond.methodLink own idx M.1 ∈ zTB
def zCl (ci : Nat) (C : String) (T : u_T) (N : Nat) : Prop := vwCl[ci]? = some (C, T, N) ∧ (∀ w ∈ u_ws C T N, w ∈ zTB) ∧ (∃ ty0 : Nat → FieldType, ∀ k, k < N → parseFieldDescriptor (T k).2.2.1 = some (ty0 k)) ∧ (∀ a, a < N → ∀ b, b < N → a ≠ b → (T a).2.1 ≠ (T b).2.1)
/-- a field's link: the class ci's field k -/
def zFL (own : String) (idx ci k : Nat) (ty : FieldType) (fin : Bool) : Prop := ∃ (C : String) (T : u_T) (N : Nat), zCl ci C T N ∧ k < N ∧ Cond.fieldLink own idx (T k).1 (T k).2.1 (T k).2.2.1 ∈ zTB ∧ parseFieldDescriptor (T k).2.2.1 = some ty ∧ (T k).2.2.2 = fin ∧ (T k).1 = C
def zFN (own : String) (idx ci k : Nat) (host : String) : Prop := ∃ (C : String) (T : u_T) (N : Nat), zCl ci C T N ∧ k < N ∧ (own, idx, (T k).1, (T k).2.1, (T k).2.2.1, host) ∈ znF
/-- the words of a throw that keep by themselves: casts, what a class declares -/
def zthx : List Cond := ((vx_atS RX11 111 "java/lang/IllegalArgumentException" ["java/lang/RuntimeException", "java/lang/Exception"]) ++ (vx_atS RX11 161 "java/util/NoSuchElementException" ["java/lang/RuntimeException", "java/lang/Exception"])).filter (fun w => !goodWord w)
def zisCD (w : Cond) : Bool := match w with
  | .castable _ _ => true
  | .declares _ => true
  | _ => false
theorem zthx_cd : zthx.all zisCD = true := by decide +kernel
theorem zthx_t {w : Cond} (h : w ∈ zthx) : w.onTables = true := by
  have := List.all_eq_true.mp zthx_cd w h
  cases w <;> first | rfl | (simp [zisCD] at this; done)
theorem zthx_warm {w : Cond} (h : w ∈ zthx) {s U : State} (hW : s.WarmedH U.vm) (hz : va_Nw w s) : va_Nw w U := by
  have := List.all_eq_true.mp zthx_cd w h
  cases w <;> first | exact hz.warmC hW | exact hz.warmD hW | (simp [zisCD] at this; done)
