/-! a text says the same where its bytes are the same -/
theorem rnF_c {P P' : Int → Prop} {n p : Int} (h : ∀ x : Int, x < n → (P x ↔ P' x)) : rnF P n p = rnF P' n p := by
  refine rnF_eq ?_
  obtain ⟨h1, h2, h3⟩ := rnF_is P' n p
  exact ⟨h1, fun x a b => ⟨(h2 x a b).1, (h x (h2 x a b).1).mpr (h2 x a b).2⟩, fun q => h3 ⟨q.1, (h _ q.1).mp q.2⟩⟩
theorem dgv_c {b b' : Int → Int} {s : Int} : ∀ k : Nat, (∀ j : Int, 0 ≤ j → j < (k : Int) → b (s + j) = b' (s + j)) → dgv b s k = dgv b' s k
  | 0, _ => rfl
  | k + 1, h => by
    show dgv b s k * 10 + b (s + (k : Int)) - 48 = dgv b' s k * 10 + b' (s + (k : Int)) - 48
    rw [dgv_c k (fun j a c => h j a (by omega)), h (k : Int) (by omega) (by omega)]
section RC
variable {b b' : Int → Int} {n : Int}
theorem tkS_c (h : ∀ x : Int, x < n → b x = b' x) : tkS b n = tkS b' n := by
  funext p
  exact rnF_c (fun x hx => by rw [h x hx])
theorem tkK_c (h : ∀ x : Int, x < n → b x = b' x) : tkK b n = tkK b' n := by
  funext p
  unfold tkK
  rw [tkS_c h]
  by_cases q : tkS b' n p < n
  · rw [if_pos q, if_pos q, h _ q]
  · rw [if_neg q, if_neg q]
theorem tkE_c (h : ∀ x : Int, x < n → b x = b' x) : tkE b n = tkE b' n := by
  funext p
  unfold tkE
  rw [tkS_c h, tkK_c h]
  rw [rnF_c (P := fun x => kdOf (b x) = tkK b' n p) (P' := fun x => kdOf (b' x) = tkK b' n p) (fun x hx => by rw [h x hx])]
theorem tkE_n {p x : Int} (x0 : tkS b n p ≤ x) (x1 : x < tkE b n p) : x < n := by
  by_cases g : tkK b n p = 1 ∨ tkK b n p = 2
  · exact (tkE_k g x0 x1).1
  · by_cases g0 : tkK b n p = 0
    · unfold tkE at x1
      rw [if_pos g0] at x1; omega
    · have := (tkK_lt g0).1
      unfold tkE at x1
      rw [if_neg g0, if_neg g] at x1; omega
theorem tkV_c (h : ∀ x : Int, x < n → b x = b' x) : tkV b n = tkV b' n := by
  funext p
  unfold tkV
  rw [← tkS_c h, ← tkE_c h]
  exact dgv_c _ (fun j a c => h _ (tkE_n (b := b) (n := n) (p := p) (by omega) (by omega)))
theorem isW_c (h : ∀ x : Int, x < n → b x = b' x) : isW b n = isW b' n := by
  funext k p
  unfold isW
  rw [← tkS_c h, ← tkE_c h, ← tkK_c h]
  refine propext ⟨fun q => ⟨q.1, q.2.1, fun i a c => ?_⟩, fun q => ⟨q.1, q.2.1, fun i a c => ?_⟩⟩
  · rw [← h _ (tkE_n (b := b) (n := n) (p := p) (by omega) (by have := q.2.1; omega))]; exact q.2.2 i a c
  · rw [h _ (tkE_n (b := b) (n := n) (p := p) (by omega) (by have := q.2.1; omega))]; exact q.2.2 i a c
theorem pVal_c (h : ∀ x : Int, x < n → b x = b' x) : pVal b n = pVal b' n := by
  funext s
  cases s with
  | inr e => rfl
  | inl p => show tkV b n p = tkV b' n p; rw [tkV_c h]
theorem pNum_c (h : ∀ x : Int, x < n → b x = b' x) : pNum b n = pNum b' n := by
  funext lo hi s
  cases s with
  | inr e => rfl
  | inl p => unfold pNum; rw [tkV_c h, tkS_c h, tkE_c h, tkK_c h]
theorem pWord_c (h : ∀ x : Int, x < n → b x = b' x) : pWord b n = pWord b' n := by
  funext k s
  cases s with
  | inr e => rfl
  | inl p => unfold pWord; rw [isW_c h, tkS_c h, tkE_c h]
theorem pSign_c (h : ∀ x : Int, x < n → b x = b' x) : pSign b n = pSign b' n := by
  funext s
  cases s with
  | inr e => rfl
  | inl p => unfold pSign; rw [tkS_c h, tkE_c h, tkK_c h]
theorem pChim_c (h : ∀ x : Int, x < n → b x = b' x) : pChim b n = pChim b' n := by
  funext nc un s
  cases s with
  | inr e => rfl
  | inl p => unfold pChim; rw [tkV_c h, tkS_c h, tkE_c h, tkK_c h]
theorem pTill_c (h : ∀ x : Int, x < n → b x = b' x) : pTill b n = pTill b' n := by
  funext f s
  cases s with
  | inr e => rfl
  | inl p => unfold pTill; rw [tkV_c h, tkS_c h, tkE_c h, tkK_c h]
theorem wnd1_c (h : ∀ x : Int, x < n → b x = b' x) : wnd1 b n = wnd1 b' n := by
  funext s Y
  unfold wnd1
  rw [pNum_c h, tkK_c h, tkS_c h]
theorem wndF_c (h : ∀ x : Int, x < n → b x = b' x) : ∀ k : Nat, wndF b n k = wndF b' n k := by
  intro k
  induction k with
  | zero => rfl
  | succ k ih =>
    funext s Y
    simp only [wndF]
    rw [wnd1_c h, ih, tkK_c h, pVal_c h]
theorem lt1_c (h : ∀ x : Int, x < n → b x = b' x) : lt1 b n = lt1 b' n := by
  funext Y s; unfold lt1; rw [pWord_c h, pChim_c h]
theorem lt2_c (h : ∀ x : Int, x < n → b x = b' x) : lt2 b n = lt2 b' n := by
  funext Y s; unfold lt2; rw [pWord_c h, pNum_c h, lt1_c h]
theorem lt3_c (h : ∀ x : Int, x < n → b x = b' x) : lt3 b n = lt3 b' n := by
  funext Y s; unfold lt3; rw [pWord_c h, pNum_c h, lt2_c h]
theorem lt4_c (h : ∀ x : Int, x < n → b x = b' x) : lt4 b n = lt4 b' n := by
  funext Y s; unfold lt4; rw [pWord_c h, pNum_c h, lt3_c h]
theorem lt5_c (h : ∀ x : Int, x < n → b x = b' x) : lt5 b n = lt5 b' n := by
  funext Y s; unfold lt5; rw [pWord_c h, pTill_c h, lt3_c h, lt4_c h, pVal_c h]
theorem lt6_c (h : ∀ x : Int, x < n → b x = b' x) : lt6 b n = lt6 b' n := by
  funext Y s; unfold lt6; rw [pNum_c h, lt5_c h]
theorem rd1_c (h : ∀ x : Int, x < n → b x = b' x) : rd1 b n = rd1 b' n := by
  funext Y s; unfold rd1; rw [pChim_c h]
theorem rd2_c (h : ∀ x : Int, x < n → b x = b' x) : rd2 b n = rd2 b' n := by
  funext Y s; unfold rd2; rw [pWord_c h, pChim_c h, rd1_c h, pVal_c h]
theorem rd3_c (h : ∀ x : Int, x < n → b x = b' x) : rd3 b n = rd3 b' n := by
  funext Y s; unfold rd3; rw [pNum_c h, rd2_c h]
theorem ne1_c (h : ∀ x : Int, x < n → b x = b' x) : ne1 b n = ne1 b' n := by
  funext Y s; unfold ne1; rw [pWord_c h, pChim_c h]
theorem ne2_c (h : ∀ x : Int, x < n → b x = b' x) : ne2 b n = ne2 b' n := by
  funext Y s; unfold ne2; rw [pWord_c h, pNum_c h, ne1_c h]
theorem ne3_c (h : ∀ x : Int, x < n → b x = b' x) : ne3 b n = ne3 b' n := by
  funext Y s; unfold ne3; rw [pTill_c h, pVal_c h, ne1_c h, ne2_c h]
theorem wh_c (h : ∀ x : Int, x < n → b x = b' x) : wh b n = wh b' n := by
  funext p; unfold wh; rw [isW_c h]
theorem clF_c (h : ∀ x : Int, x < n → b x = b' x) : clF b n = clF b' n := by
  funext p Y
  unfold clF
  rw [wh_c h, tkS_c h, tkE_c h, pSign_c h, pNum_c h, pVal_c h, wndF_c h, lt1_c h, lt2_c h, lt3_c h, lt4_c h, lt5_c h, lt6_c h, rd1_c h, rd2_c h, rd3_c h, ne1_c h, ne2_c h, ne3_c h]
theorem runP_c (h : ∀ x : Int, x < n → b x = b' x) : ∀ (k : Nat) (s : zP) (Y : zW), runP b n k s Y = runP b' n k s Y
  | 0, _, _ => rfl
  | k + 1, .inr e, Y => rfl
  | k + 1, .inl p, Y => by
    simp only [runP]
    rw [tkK_c h, clF_c h, runP_c h k]
end RC
