/-! one component anew; what no side is told by; calls that answer yes or no -/
theorem sFp_n {t c : Nat} {x : Int} (ht : t = 4 ∨ t = 10) (h : sFp t c x) : (c ≠ 73 ∨ (x ≠ 1 ∧ x ≠ 27 ∧ x ≠ 47 ∧ x ≠ 72 ∧ x ≠ 77 ∧ x ≠ 33 ∧ x ≠ 34 ∧ x ≠ 35 ∧ x ≠ 36 ∧ x ≠ 37)) ∧ (c ≠ 16 ∨ (x ≠ 8 ∧ x ≠ 14)) ∧ (c ≠ 62 ∨ x ≠ 5) ∧ c ≠ 2 ∧ c ≠ 3 ∧ c ≠ 17 ∧ c ≠ 18 ∧ c ≠ 19 ∧ c ≠ 20 ∧ c ≠ 21 ∧ c ≠ 22 ∧ c ≠ 22 ∧ c ≠ 24 ∧ c ≠ 29 ∧ c ≠ 36 ∧ c ≠ 37 ∧ c ≠ 38 ∧ c ≠ 41 ∧ c ≠ 42 ∧ c ≠ 43 ∧ c ≠ 54 ∧ c ≠ 61 ∧ c ≠ 66 ∧ c ≠ 67 ∧ c ≠ 68 ∧ c ≠ 69 ∧ c ≠ 85 ∧ c ≠ 86 ∧ c ≠ 94 ∧ c ≠ 97 ∧ c ≠ 108 ∧ c ≠ 112 ∧ c ≠ 114 ∧ c ≠ 115 ∧ c ≠ 119 ∧ c ≠ 121 := by
  unfold sFp at h
  refine ⟨?_, ?_, ?_, ?_, ?_, ?_, ?_, ?_, ?_, ?_, ?_, ?_, ?_, ?_, ?_, ?_, ?_, ?_, ?_, ?_, ?_, ?_, ?_, ?_, ?_, ?_, ?_, ?_, ?_, ?_, ?_, ?_, ?_, ?_, ?_, ?_⟩ <;> omega
theorem zSim_uTape {n t dr tx tx' : Nat} {w w' : zW} (h : zSim n t dr tx w) (k : ∀ (c : Nat) (x : Int), sFp t c x → ¬ ((c = 0 ∧ x = 1) ∨ (c = 73 ∧ x = 12) ∨ c = 1 ∨ c = 84) → w' c x = w c x) (hX : sTape w') : zSim (n + 1) t dr tx' w' := by
  have ht := h.ht
  exact ⟨h.ht, hX,
    sMis_k h.kf (fun c x hc => k c x (sMis_f hc) (by omega)),
    sYd_k h.ky (fun c x hc => k c x (sYd_f hc) (by omega)),
    sPlan_k h.kp (fun c x hc => k c x (sPlan_f hc) (by omega)),
    sStm_k h.kc (fun c x hc => k c x (sStm_f hc) (by omega)),
    sPb_k h.kb (fun c x hc => k c x (sPb_f hc) (by omega)),
    sTr_k h.kT (fun c x hc => k c x (sTr_f hc) (by omega)),
    sGe_k h.kg (fun c x hc => k c x (sGe_f hc) (by omega)),
    sClm_k (sClm_m (Nat.le_succ n) h.kl) (fun c x hc => k c x (sClm_f hc) (by omega)),
    sImg_k (sImg_m (Nat.le_succ n) h.ki) (fun c x hc => k c x (sImg_f hc) (by omega)),
    sIr_k h.kr (fun c x hc => k c x (sIr_f hc) (by omega)),
    sOr_k h.ko (fun c x hc => k c x (sOr_f hc) (by omega)),
    sOw_k h.kO (fun c x hc => k c x (sOw_f hc) (by omega)),
    sLd_k h.kL (fun c x hc => k c x (sLd_f hc) (by omega))⟩
theorem zSim_uPlan {n t dr tx tx' : Nat} {w w' : zW} (h : zSim n t dr tx w) (k : ∀ (c : Nat) (x : Int), sFp t c x → ¬ ((c = 16 ∧ x = 12) ∨ (c = 16 ∧ x = 13) ∨ (c = 16 ∧ x = 15) ∨ (c = 16 ∧ x = 16) ∨ (c = 73 ∧ x = 26) ∨ (c = 73 ∧ x = 28) ∨ (c = 73 ∧ x = 76) ∨ c = 25 ∨ c = 26 ∨ c = 27 ∨ c = 87 ∨ c = 88 ∨ c = 113) → w' c x = w c x) (hX : sPlan t w') : zSim (n + 1) t dr tx' w' := by
  have ht := h.ht
  exact ⟨h.ht, sTape_k h.ka (fun c x hc => k c x (sTape_f hc) (by omega)),
    sMis_k h.kf (fun c x hc => k c x (sMis_f hc) (by omega)),
    sYd_k h.ky (fun c x hc => k c x (sYd_f hc) (by omega)),
    hX,
    sStm_k h.kc (fun c x hc => k c x (sStm_f hc) (by omega)),
    sPb_k h.kb (fun c x hc => k c x (sPb_f hc) (by omega)),
    sTr_k h.kT (fun c x hc => k c x (sTr_f hc) (by omega)),
    sGe_k h.kg (fun c x hc => k c x (sGe_f hc) (by omega)),
    sClm_k (sClm_m (Nat.le_succ n) h.kl) (fun c x hc => k c x (sClm_f hc) (by omega)),
    sImg_k (sImg_m (Nat.le_succ n) h.ki) (fun c x hc => k c x (sImg_f hc) (by omega)),
    sIr_k h.kr (fun c x hc => k c x (sIr_f hc) (by omega)),
    sOr_k h.ko (fun c x hc => k c x (sOr_f hc) (by omega)),
    sOw_k h.kO (fun c x hc => k c x (sOw_f hc) (by omega)),
    sLd_k h.kL (fun c x hc => k c x (sLd_f hc) (by omega))⟩
theorem zSim_uStm {n t dr tx tx' : Nat} {w w' : zW} (h : zSim n t dr tx w) (k : ∀ (c : Nat) (x : Int), sFp t c x → ¬ (c = 28 ∨ c = 120) → w' c x = w c x) (hX : sStm w') : zSim (n + 1) t dr tx' w' := by
  have ht := h.ht
  exact ⟨h.ht, sTape_k h.ka (fun c x hc => k c x (sTape_f hc) (by omega)),
    sMis_k h.kf (fun c x hc => k c x (sMis_f hc) (by omega)),
    sYd_k h.ky (fun c x hc => k c x (sYd_f hc) (by omega)),
    sPlan_k h.kp (fun c x hc => k c x (sPlan_f hc) (by omega)),
    hX,
    sPb_k h.kb (fun c x hc => k c x (sPb_f hc) (by omega)),
    sTr_k h.kT (fun c x hc => k c x (sTr_f hc) (by omega)),
    sGe_k h.kg (fun c x hc => k c x (sGe_f hc) (by omega)),
    sClm_k (sClm_m (Nat.le_succ n) h.kl) (fun c x hc => k c x (sClm_f hc) (by omega)),
    sImg_k (sImg_m (Nat.le_succ n) h.ki) (fun c x hc => k c x (sImg_f hc) (by omega)),
    sIr_k h.kr (fun c x hc => k c x (sIr_f hc) (by omega)),
    sOr_k h.ko (fun c x hc => k c x (sOr_f hc) (by omega)),
    sOw_k h.kO (fun c x hc => k c x (sOw_f hc) (by omega)),
    sLd_k h.kL (fun c x hc => k c x (sLd_f hc) (by omega))⟩
theorem zSim_uPb {n t dr tx tx' : Nat} {w w' : zW} (h : zSim n t dr tx w) (k : ∀ (c : Nat) (x : Int), sFp t c x → ¬ (c = 30 ∨ c = 31 ∨ c = 32 ∨ c = 33 ∨ c = 89 ∨ c = 90 ∨ c = 91 ∨ c = 92) → w' c x = w c x) (hX : sPb w') : zSim (n + 1) t dr tx' w' := by
  have ht := h.ht
  exact ⟨h.ht, sTape_k h.ka (fun c x hc => k c x (sTape_f hc) (by omega)),
    sMis_k h.kf (fun c x hc => k c x (sMis_f hc) (by omega)),
    sYd_k h.ky (fun c x hc => k c x (sYd_f hc) (by omega)),
    sPlan_k h.kp (fun c x hc => k c x (sPlan_f hc) (by omega)),
    sStm_k h.kc (fun c x hc => k c x (sStm_f hc) (by omega)),
    hX,
    sTr_k h.kT (fun c x hc => k c x (sTr_f hc) (by omega)),
    sGe_k h.kg (fun c x hc => k c x (sGe_f hc) (by omega)),
    sClm_k (sClm_m (Nat.le_succ n) h.kl) (fun c x hc => k c x (sClm_f hc) (by omega)),
    sImg_k (sImg_m (Nat.le_succ n) h.ki) (fun c x hc => k c x (sImg_f hc) (by omega)),
    sIr_k h.kr (fun c x hc => k c x (sIr_f hc) (by omega)),
    sOr_k h.ko (fun c x hc => k c x (sOr_f hc) (by omega)),
    sOw_k h.kO (fun c x hc => k c x (sOw_f hc) (by omega)),
    sLd_k h.kL (fun c x hc => k c x (sLd_f hc) (by omega))⟩
theorem zSim_uTr {n t dr tx tx' : Nat} {w w' : zW} (h : zSim n t dr tx w) (k : ∀ (c : Nat) (x : Int), sFp t c x → ¬ ((c = 34 ∧ x = 4) ∨ (c = 34 ∧ x = 5) ∨ (c = 34 ∧ x = 6) ∨ (c = 34 ∧ x = 7) ∨ (c = 34 ∧ x = 8) ∨ (c = 34 ∧ x = 9) ∨ (c = 34 ∧ x = 10) ∨ (c = 34 ∧ x = 11) ∨ (c = 34 ∧ x = 12) ∨ (c = 73 ∧ x = 39) ∨ (c = 73 ∧ x = 40) ∨ (c = 73 ∧ x = 41) ∨ (c = 73 ∧ x = 42) ∨ c = 35 ∨ c = 93) → w' c x = w c x) (hX : sTr w') : zSim (n + 1) t dr tx' w' := by
  have ht := h.ht
  exact ⟨h.ht, sTape_k h.ka (fun c x hc => k c x (sTape_f hc) (by omega)),
    sMis_k h.kf (fun c x hc => k c x (sMis_f hc) (by omega)),
    sYd_k h.ky (fun c x hc => k c x (sYd_f hc) (by omega)),
    sPlan_k h.kp (fun c x hc => k c x (sPlan_f hc) (by omega)),
    sStm_k h.kc (fun c x hc => k c x (sStm_f hc) (by omega)),
    sPb_k h.kb (fun c x hc => k c x (sPb_f hc) (by omega)),
    hX,
    sGe_k h.kg (fun c x hc => k c x (sGe_f hc) (by omega)),
    sClm_k (sClm_m (Nat.le_succ n) h.kl) (fun c x hc => k c x (sClm_f hc) (by omega)),
    sImg_k (sImg_m (Nat.le_succ n) h.ki) (fun c x hc => k c x (sImg_f hc) (by omega)),
    sIr_k h.kr (fun c x hc => k c x (sIr_f hc) (by omega)),
    sOr_k h.ko (fun c x hc => k c x (sOr_f hc) (by omega)),
    sOw_k h.kO (fun c x hc => k c x (sOw_f hc) (by omega)),
    sLd_k h.kL (fun c x hc => k c x (sLd_f hc) (by omega))⟩
theorem zSim_uGe {n t dr tx tx' : Nat} {w w' : zW} (h : zSim n t dr tx w) (k : ∀ (c : Nat) (x : Int), sFp t c x → ¬ ((c = 39 ∧ x = 1) ∨ (c = 73 ∧ x = 45) ∨ c = 40 ∨ c = 96) → w' c x = w c x) (hX : sGe w') : zSim (n + 1) t dr tx' w' := by
  have ht := h.ht
  exact ⟨h.ht, sTape_k h.ka (fun c x hc => k c x (sTape_f hc) (by omega)),
    sMis_k h.kf (fun c x hc => k c x (sMis_f hc) (by omega)),
    sYd_k h.ky (fun c x hc => k c x (sYd_f hc) (by omega)),
    sPlan_k h.kp (fun c x hc => k c x (sPlan_f hc) (by omega)),
    sStm_k h.kc (fun c x hc => k c x (sStm_f hc) (by omega)),
    sPb_k h.kb (fun c x hc => k c x (sPb_f hc) (by omega)),
    sTr_k h.kT (fun c x hc => k c x (sTr_f hc) (by omega)),
    hX,
    sClm_k (sClm_m (Nat.le_succ n) h.kl) (fun c x hc => k c x (sClm_f hc) (by omega)),
    sImg_k (sImg_m (Nat.le_succ n) h.ki) (fun c x hc => k c x (sImg_f hc) (by omega)),
    sIr_k h.kr (fun c x hc => k c x (sIr_f hc) (by omega)),
    sOr_k h.ko (fun c x hc => k c x (sOr_f hc) (by omega)),
    sOw_k h.kO (fun c x hc => k c x (sOw_f hc) (by omega)),
    sLd_k h.kL (fun c x hc => k c x (sLd_f hc) (by omega))⟩
theorem zSim_uClm {n t dr tx tx' : Nat} {w w' : zW} (h : zSim n t dr tx w) (k : ∀ (c : Nat) (x : Int), sFp t c x → ¬ ((c = 44 ∧ x = 1) ∨ (c = 44 ∧ x = 4) ∨ (c = 44 ∧ x = 6) ∨ (c = 73 ∧ x = 44) ∨ (c = 73 ∧ x = 46) ∨ (c = 73 ∧ x = 54) ∨ c = 45 ∨ c = 46 ∨ c = 47 ∨ c = 48 ∨ c = 95 ∨ c = 98 ∨ c = 99 ∨ c = 100) → w' c x = w c x) (hX : sClm (n + 1) t w') : zSim (n + 1) t dr tx' w' := by
  have ht := h.ht
  exact ⟨h.ht, sTape_k h.ka (fun c x hc => k c x (sTape_f hc) (by omega)),
    sMis_k h.kf (fun c x hc => k c x (sMis_f hc) (by omega)),
    sYd_k h.ky (fun c x hc => k c x (sYd_f hc) (by omega)),
    sPlan_k h.kp (fun c x hc => k c x (sPlan_f hc) (by omega)),
    sStm_k h.kc (fun c x hc => k c x (sStm_f hc) (by omega)),
    sPb_k h.kb (fun c x hc => k c x (sPb_f hc) (by omega)),
    sTr_k h.kT (fun c x hc => k c x (sTr_f hc) (by omega)),
    sGe_k h.kg (fun c x hc => k c x (sGe_f hc) (by omega)),
    hX,
    sImg_k (sImg_m (Nat.le_succ n) h.ki) (fun c x hc => k c x (sImg_f hc) (by omega)),
    sIr_k h.kr (fun c x hc => k c x (sIr_f hc) (by omega)),
    sOr_k h.ko (fun c x hc => k c x (sOr_f hc) (by omega)),
    sOw_k h.kO (fun c x hc => k c x (sOw_f hc) (by omega)),
    sLd_k h.kL (fun c x hc => k c x (sLd_f hc) (by omega))⟩
theorem zSim_uImg {n t dr tx tx' : Nat} {w w' : zW} (h : zSim n t dr tx w) (k : ∀ (c : Nat) (x : Int), sFp t c x → ¬ ((c = 0 ∧ x = 13) ∨ (c = 73 ∧ x = 55) ∨ (c = 73 ∧ x = 56) ∨ (c = 73 ∧ x = 57) ∨ (c = 73 ∧ x = 58) ∨ (c = 49 ∧ x = 1) ∨ (c = 49 ∧ x = 4) ∨ (c = 49 ∧ x = 6) ∨ c = 50 ∨ c = 51 ∨ c = 52 ∨ c = 53 ∨ c = 101 ∨ c = 102 ∨ c = 103 ∨ c = 104) → w' c x = w c x) (hX : sImg (n + 1) t w') : zSim (n + 1) t dr tx' w' := by
  have ht := h.ht
  exact ⟨h.ht, sTape_k h.ka (fun c x hc => k c x (sTape_f hc) (by omega)),
    sMis_k h.kf (fun c x hc => k c x (sMis_f hc) (by omega)),
    sYd_k h.ky (fun c x hc => k c x (sYd_f hc) (by omega)),
    sPlan_k h.kp (fun c x hc => k c x (sPlan_f hc) (by omega)),
    sStm_k h.kc (fun c x hc => k c x (sStm_f hc) (by omega)),
    sPb_k h.kb (fun c x hc => k c x (sPb_f hc) (by omega)),
    sTr_k h.kT (fun c x hc => k c x (sTr_f hc) (by omega)),
    sGe_k h.kg (fun c x hc => k c x (sGe_f hc) (by omega)),
    sClm_k (sClm_m (Nat.le_succ n) h.kl) (fun c x hc => k c x (sClm_f hc) (by omega)),
    hX,
    sIr_k h.kr (fun c x hc => k c x (sIr_f hc) (by omega)),
    sOr_k h.ko (fun c x hc => k c x (sOr_f hc) (by omega)),
    sOw_k h.kO (fun c x hc => k c x (sOw_f hc) (by omega)),
    sLd_k h.kL (fun c x hc => k c x (sLd_f hc) (by omega))⟩
theorem zSim_uIr {n t dr tx tx' : Nat} {w w' : zW} (h : zSim n t dr tx w) (k : ∀ (c : Nat) (x : Int), sFp t c x → ¬ (c = 55 ∨ c = 56 ∨ c = 57 ∨ c = 58 ∨ c = 59 ∨ c = 60 ∨ c = 105 ∨ c = 106 ∨ c = 107) → w' c x = w c x) (hX : sIr w') : zSim (n + 1) t dr tx' w' := by
  have ht := h.ht
  exact ⟨h.ht, sTape_k h.ka (fun c x hc => k c x (sTape_f hc) (by omega)),
    sMis_k h.kf (fun c x hc => k c x (sMis_f hc) (by omega)),
    sYd_k h.ky (fun c x hc => k c x (sYd_f hc) (by omega)),
    sPlan_k h.kp (fun c x hc => k c x (sPlan_f hc) (by omega)),
    sStm_k h.kc (fun c x hc => k c x (sStm_f hc) (by omega)),
    sPb_k h.kb (fun c x hc => k c x (sPb_f hc) (by omega)),
    sTr_k h.kT (fun c x hc => k c x (sTr_f hc) (by omega)),
    sGe_k h.kg (fun c x hc => k c x (sGe_f hc) (by omega)),
    sClm_k (sClm_m (Nat.le_succ n) h.kl) (fun c x hc => k c x (sClm_f hc) (by omega)),
    sImg_k (sImg_m (Nat.le_succ n) h.ki) (fun c x hc => k c x (sImg_f hc) (by omega)),
    hX,
    sOr_k h.ko (fun c x hc => k c x (sOr_f hc) (by omega)),
    sOw_k h.kO (fun c x hc => k c x (sOw_f hc) (by omega)),
    sLd_k h.kL (fun c x hc => k c x (sLd_f hc) (by omega))⟩
theorem zSim_uOr {n t dr tx tx' : Nat} {w w' : zW} (h : zSim n t dr tx w) (k : ∀ (c : Nat) (x : Int), sFp t c x → ¬ ((c = 62 ∧ x = 3) ∨ (c = 73 ∧ x = 71) ∨ c = 63 ∨ c = 64 ∨ c = 65 ∨ c = 109 ∨ c = 110 ∨ c = 111) → w' c x = w c x) (hX : sOr w') : zSim (n + 1) t dr tx' w' := by
  have ht := h.ht
  exact ⟨h.ht, sTape_k h.ka (fun c x hc => k c x (sTape_f hc) (by omega)),
    sMis_k h.kf (fun c x hc => k c x (sMis_f hc) (by omega)),
    sYd_k h.ky (fun c x hc => k c x (sYd_f hc) (by omega)),
    sPlan_k h.kp (fun c x hc => k c x (sPlan_f hc) (by omega)),
    sStm_k h.kc (fun c x hc => k c x (sStm_f hc) (by omega)),
    sPb_k h.kb (fun c x hc => k c x (sPb_f hc) (by omega)),
    sTr_k h.kT (fun c x hc => k c x (sTr_f hc) (by omega)),
    sGe_k h.kg (fun c x hc => k c x (sGe_f hc) (by omega)),
    sClm_k (sClm_m (Nat.le_succ n) h.kl) (fun c x hc => k c x (sClm_f hc) (by omega)),
    sImg_k (sImg_m (Nat.le_succ n) h.ki) (fun c x hc => k c x (sImg_f hc) (by omega)),
    sIr_k h.kr (fun c x hc => k c x (sIr_f hc) (by omega)),
    hX,
    sOw_k h.kO (fun c x hc => k c x (sOw_f hc) (by omega)),
    sLd_k h.kL (fun c x hc => k c x (sLd_f hc) (by omega))⟩
theorem zSim_uOw {n t dr tx tx' : Nat} {w w' : zW} (h : zSim n t dr tx w) (k : ∀ (c : Nat) (x : Int), sFp t c x → ¬ (c = 70 ∨ c = 71 ∨ c = 72 ∨ c = 116 ∨ c = 117 ∨ c = 118) → w' c x = w c x) (hX : sOw w') : zSim (n + 1) t dr tx' w' := by
  have ht := h.ht
  exact ⟨h.ht, sTape_k h.ka (fun c x hc => k c x (sTape_f hc) (by omega)),
    sMis_k h.kf (fun c x hc => k c x (sMis_f hc) (by omega)),
    sYd_k h.ky (fun c x hc => k c x (sYd_f hc) (by omega)),
    sPlan_k h.kp (fun c x hc => k c x (sPlan_f hc) (by omega)),
    sStm_k h.kc (fun c x hc => k c x (sStm_f hc) (by omega)),
    sPb_k h.kb (fun c x hc => k c x (sPb_f hc) (by omega)),
    sTr_k h.kT (fun c x hc => k c x (sTr_f hc) (by omega)),
    sGe_k h.kg (fun c x hc => k c x (sGe_f hc) (by omega)),
    sClm_k (sClm_m (Nat.le_succ n) h.kl) (fun c x hc => k c x (sClm_f hc) (by omega)),
    sImg_k (sImg_m (Nat.le_succ n) h.ki) (fun c x hc => k c x (sImg_f hc) (by omega)),
    sIr_k h.kr (fun c x hc => k c x (sIr_f hc) (by omega)),
    sOr_k h.ko (fun c x hc => k c x (sOr_f hc) (by omega)),
    hX,
    sLd_k h.kL (fun c x hc => k c x (sLd_f hc) (by omega))⟩
theorem zSim_uLd {n t dr tx tx' : Nat} {w w' : zW} (h : zSim n t dr tx w) (k : ∀ (c : Nat) (x : Int), sFp t c x → ¬ (c = 23) → w' c x = w c x) (hX : sLd w') : zSim (n + 1) t dr tx' w' := by
  have ht := h.ht
  exact ⟨h.ht, sTape_k h.ka (fun c x hc => k c x (sTape_f hc) (by omega)),
    sMis_k h.kf (fun c x hc => k c x (sMis_f hc) (by omega)),
    sYd_k h.ky (fun c x hc => k c x (sYd_f hc) (by omega)),
    sPlan_k h.kp (fun c x hc => k c x (sPlan_f hc) (by omega)),
    sStm_k h.kc (fun c x hc => k c x (sStm_f hc) (by omega)),
    sPb_k h.kb (fun c x hc => k c x (sPb_f hc) (by omega)),
    sTr_k h.kT (fun c x hc => k c x (sTr_f hc) (by omega)),
    sGe_k h.kg (fun c x hc => k c x (sGe_f hc) (by omega)),
    sClm_k (sClm_m (Nat.le_succ n) h.kl) (fun c x hc => k c x (sClm_f hc) (by omega)),
    sImg_k (sImg_m (Nat.le_succ n) h.ki) (fun c x hc => k c x (sImg_f hc) (by omega)),
    sIr_k h.kr (fun c x hc => k c x (sIr_f hc) (by omega)),
    sOr_k h.ko (fun c x hc => k c x (sOr_f hc) (by omega)),
    sOw_k h.kO (fun c x hc => k c x (sOw_f hc) (by omega)),
    hX⟩
theorem zPr_b {l : Launch} {n t dr tx : Nat} {w W1 : zW} {W2 : zW → zW} {mc mr : zM} {kN kI : Int} {as : List Value} {d bc bs : Nat} {X : String → zS → zW → Prop} {A C A' C' N1 : Prop} (h : zSim n t dr tx w) (hb : d ≤ 14 ∧ bc ≤ 3 ∧ bs ≤ 18) (hs : zSp l mc false d bc bs (zR 0 :: as) (ZZ t dr tx) w (zBs A C (ZZ t dr tx) w W1) X) (hX : ∀ E S w1, X E S w1 → zXp N1 False (ZZ t dr tx) w E S w1)
    (hf : ∀ (c : Nat) (x : Int), 73 ≤ c → W1 c x = w c x)
    (hR : ∀ w2 : zW, (∀ (c : Nat) (x : Int), 73 ≤ c → c ≠ 121 → w2 c x = w c x) → ∃ (d2 : Nat) (Q2 : Option Value → zS → zW → Prop), d2 ≤ 15 ∧ zSp l mr false d2 0 0 (zR 73 :: as) (ZZ t dr tx) w2 Q2 zNo ∧ ∀ v2 S2 w3, Q2 v2 S2 w3 → zMb A' C' (ZZ t dr tx) w2 (W2 w2) v2 S2 w3)
    (c1 : A → ¬ A') (c2 : A → (C ↔ C')) (c3 : N1 → A' ∧ kN = 1)
    (hS : A → C → ∀ w2 : zW, (∀ (c : Nat) (x : Int), c ≠ 121 → w2 c x = W1 c x) → ∀ w3 : zW, w3 = W2 w2 → w3 73 1 = 0 ∧ w3 121 0 = w2 121 0 ∧ zSim (n + 1) t dr tx w3) : zPr l n mc mr kN kI false as t dr tx w := by
  have ht : t = 4 ∨ t = 10 := by have := h.ht; omega
  have hk : ∀ (w2 : zW) (v : Int), (∀ (c : Nat) (x : Int), c ≠ 121 → w2 c x = w c x) → zSim (n + 1) t dr tx (up w2 73 1 v) := fun w2 v e => zSim_k h (fun c x hc => by
    obtain ⟨q1, -, -, q2⟩ := sFp_n ht hc
    rw [up_n (by omega), e c x (by omega)])
  refine ⟨d, bc, bs, _, X, hb, hs, fun v S w1 hq w2 e => ?_, fun E S w1 hx => ?_⟩
  · obtain ⟨rfl, hA, ⟨hC, rfl, rfl⟩ | ⟨hC, rfl, rfl⟩⟩ := hq
    · obtain ⟨d2, Q2, hd, hsp, hk2⟩ := hR w2 (fun c x a b => (e c x b).trans (hf c x a))
      refine ⟨⟨_, _, _, rfl⟩, ⟨_, rfl⟩, d2, Q2, hd, hsp, fun v2 S2 w3 hq2 => ?_⟩
      obtain ⟨rfl, ⟨g, -⟩ | ⟨-, g, -⟩ | ⟨-, -, rfl, g⟩⟩ := hk2 v2 S2 w3 hq2
      · exact absurd g (c1 hA)
      · exact absurd ((c2 hA).mp hC) g
      · obtain ⟨k1, k3, k2⟩ := hS hA hC w2 e w3 g
        exact ⟨rfl, k1, k3, t, dr, tx, rfl, k2⟩
    · obtain ⟨d2, Q2, hd, hsp, hk2⟩ := hR w2 (fun c x a b => e c x b)
      refine ⟨⟨_, _, _, rfl⟩, ⟨_, rfl⟩, d2, Q2, hd, hsp, fun v2 S2 w3 hq2 => ?_⟩
      obtain ⟨rfl, ⟨g, -⟩ | ⟨-, -, rfl, rfl⟩ | ⟨-, g, -⟩⟩ := hk2 v2 S2 w3 hq2
      · exact absurd g (c1 hA)
      · exact ⟨rfl, up_same _ _ _ _, up_n (Or.inl (by decide)), t, dr, tx, rfl, hk w2 0 e⟩
      · exact absurd ((c2 hA).mpr g) hC
  · obtain ⟨⟨rfl, hN⟩ | ⟨-, hN⟩, rfl, rfl⟩ := hX E S w1 hx
    · obtain ⟨d2, Q2, hd, hsp, hk2⟩ := hR w1 (fun c x a b => rfl)
      have h3 := c3 hN
      refine ⟨kN, Or.inl ⟨rfl, rfl, by omega⟩, ⟨_, _, _, rfl⟩, d2, Q2, hd, hsp, fun v2 S2 w3 hq2 => ?_⟩
      obtain ⟨rfl, ⟨g, rfl, rfl⟩ | ⟨g, -⟩ | ⟨g, -⟩⟩ := hk2 v2 S2 w3 hq2
      · exact ⟨⟨_, rfl⟩, by rw [up_same, h3.2], t, dr, tx, rfl, hk w1 1 (fun _ _ _ => rfl)⟩
      · exact absurd h3.1 g
      · exact absurd h3.1 g
    · exact hN.elim
