/-! fewest ropes, in the class -/
set_option maxRecDepth 100000 in
set_option maxHeartbeats 4000000 in
theorem s_layLast {l : Launch} {t dr tx : Nat} {w : zW} {s o x L : Int} (s0 : 0 ≤ s) (s1 : s < 1024) (o0 : 0 ≤ o) (o1 : o < 1024) (x0 : 1 ≤ x) (x1 : x ≤ L) (hL : L < 2147483648) (b0 : 0 ≤ w 42 o) (b1 : w 42 o ≤ L) (f0 : 0 ≤ w 41 o) (f1 : w 41 o ≤ 10) : zSp l mX2_layLast false 1 0 0 [zR 39, zI s, zI o, zI x, zI L] (ZZ t dr tx) w (fun v' S' w' => v' = none ∧ S' = (ZZ t dr tx) ∧ ((exF L x (w 41 o) (w 42 o) < w 41 s ∨ (exF L x (w 41 o) (w 42 o) = w 41 s ∧ exB L x (w 42 o) < w 42 s)) ∧ w' = up (up w 41 s (exF L x (w 41 o) (w 42 o))) 42 s (exB L x (w 42 o)) ∨ ¬ (exF L x (w 41 o) (w 42 o) < w 41 s ∨ (exF L x (w 41 o) (w 42 o) = w 41 s ∧ exB L x (w 42 o) < w 42 s)) ∧ w' = w)) zNo := by
  refine zA_intro ⟨plainFor_of_name (by decide +kernel), Or.inl (by decide +kernel)⟩ rfl (Nat.le_of_ble_eq_true rfl) ?_
  refine zA_range (fun hr => ?_)
  show zA l mX2_layLast false 1 0 0 (fun v' S' w' => v' = none ∧ S' = (ZZ t dr tx) ∧ ((exF L x (w 41 o) (w 42 o) < w 41 s ∨ (exF L x (w 41 o) (w 42 o) = w 41 s ∧ exB L x (w 42 o) < w 42 s)) ∧ w' = up (up w 41 s (exF L x (w 41 o) (w 42 o))) 42 s (exB L x (w 42 o)) ∨ ¬ (exF L x (w 41 o) (w 42 o) < w 41 s ∨ (exF L x (w 41 o) (w 42 o) = w 41 s ∧ exB L x (w 42 o) < w 42 s)) ∧ w' = w)) zNo 0 [zR 39, zI s, zI o, zI x, zI L, .null, .null, .null] [] (ZZ t dr tx) w
  refine zA_aload_n dX2_layLast_0 rfl ?_
  refine zA_getR (n := 42) dX2_layLast_1 fX2_22 c39 rfl ?_
  refine zA_iload_n dX2_layLast_4 rfl ?_
  refine zA_iaload dX2_layLast_5 c42 (by first | assumption | omega) (by first | assumption | omega) (by decide) ?_
  refine zA_iload dX2_layLast_6 rfl ?_
  refine zA_iload_n dX2_layLast_8 rfl ?_
  refine zA_isub dX2_layLast_9 ?_
  refine zA_icmp_gt (tgt := 17) dX2_layLast_10 (by decide) (by first | assumption | exact hr _ _ | exact inR_mk (by omega) (by omega)) (by first | assumption | exact hr _ _ | exact inR_mk (by omega) (by omega)) (fun c10 => ?_) (fun c10 => ?_)
  · skip
    refine zA_iconst dX2_layLast_17 ?_
    refine zA_istore (lo1 := [zR 39, zI s, zI o, zI x, zI L, zI 0, .null, .null]) dX2_layLast_18 (by decide) rfl rfl ?_
    refine zA_iload dX2_layLast_20 rfl ?_
    refine zA_if_eq (tgt := 34) dX2_layLast_22 (by decide) ⟨by decide, by decide⟩ (fun c22 => ?_) (fun c22 => ?_)
    · skip
      refine zA_aload_n dX2_layLast_34 rfl ?_
      refine zA_getR (n := 41) dX2_layLast_35 fX2_19 c39 rfl ?_
      refine zA_iload_n dX2_layLast_38 rfl ?_
      refine zA_iaload dX2_layLast_39 c41 (by first | assumption | omega) (by first | assumption | omega) (by decide) ?_
      refine zA_iconst dX2_layLast_40 ?_
      refine zA_iadd dX2_layLast_41 ?_
      refine zA_valI (exF L x (w 41 o) (w 42 o)) (by unfold exF; first | (exfalso; omega) | rw [if_pos (by omega)] | rw [if_neg (by omega)]) ?_
      have hef : 0 ≤ exF L x (w 41 o) (w 42 o) ∧ exF L x (w 41 o) (w 42 o) ≤ 11 := by unfold exF; split <;> omega
      refine zA_istore (lo1 := [zR 39, zI s, zI o, zI x, zI L, zI 0, zI (exF L x (w 41 o) (w 42 o)), .null]) dX2_layLast_42 (by decide) rfl rfl ?_
      refine zA_iload dX2_layLast_44 rfl ?_
      refine zA_if_eq (tgt := 60) dX2_layLast_46 (by decide) ⟨by decide, by decide⟩ (fun c46 => ?_) (fun c46 => ?_)
      · skip
        refine zA_iload_n dX2_layLast_60 rfl ?_
        refine zA_valI (exB L x (w 42 o)) (by unfold exB; first | (exfalso; omega) | rw [if_pos (by omega)] | rw [if_neg (by omega)]) ?_
        have heb : 0 ≤ exB L x (w 42 o) ∧ exB L x (w 42 o) ≤ L := by unfold exB; split <;> omega
        refine zA_istore (lo1 := [zR 39, zI s, zI o, zI x, zI L, zI 0, zI (exF L x (w 41 o) (w 42 o)), zI (exB L x (w 42 o))]) dX2_layLast_61 (by decide) rfl rfl ?_
        refine zA_iload dX2_layLast_63 rfl ?_
        refine zA_aload_n dX2_layLast_65 rfl ?_
        refine zA_getR (n := 41) dX2_layLast_66 fX2_19 c39 rfl ?_
        refine zA_iload_n dX2_layLast_69 rfl ?_
        refine zA_iaload dX2_layLast_70 c41 (by first | assumption | omega) (by first | assumption | omega) (by decide) ?_
        refine zA_icmp_lt (tgt := 96) dX2_layLast_71 (by decide) (by first | assumption | exact hr _ _ | exact inR_mk (by omega) (by omega)) (by first | assumption | exact hr _ _ | exact inR_mk (by omega) (by omega)) (fun c71 => ?_) (fun c71 => ?_)
        · skip
          refine zA_aload_n dX2_layLast_96 rfl ?_
          refine zA_getR (n := 41) dX2_layLast_97 fX2_19 c39 rfl ?_
          refine zA_iload_n dX2_layLast_100 rfl ?_
          refine zA_iload dX2_layLast_101 rfl ?_
          refine zA_iastore dX2_layLast_103 (by first | assumption | exact hr _ _ | exact inR_mk (by omega) (by omega)) c41 (by first | assumption | omega) (by first | assumption | omega) (by decide) ?_
          refine zA_namew (fun w_1 hw_1 => ?_)
          refine zA_range (fun hr => ?_)
          replace hw_1 : w_1 = up w 41 s (exF L x (w 41 o) (w 42 o)) := hw_1
          refine zA_aload_n dX2_layLast_104 rfl ?_
          refine zA_getR (n := 42) dX2_layLast_105 fX2_22 c39 rfl ?_
          refine zA_iload_n dX2_layLast_108 rfl ?_
          refine zA_iload dX2_layLast_109 rfl ?_
          refine zA_iastore dX2_layLast_111 (by first | assumption | exact hr _ _ | exact inR_mk (by omega) (by omega)) c42 (by first | assumption | omega) (by first | assumption | omega) (by decide) ?_
          refine zA_namew (fun w_2 hw_2 => ?_)
          refine zA_range (fun hr => ?_)
          replace hw_2 : w_2 = up w_1 42 s (exB L x (w 42 o)) := hw_2
          refine zA_vret dX2_layLast_112 rfl ?_
          exact ⟨rfl, rfl, Or.inl ⟨by omega, by rw [hw_2, hw_1]⟩⟩
        · skip
          refine zA_iload dX2_layLast_74 rfl ?_
          refine zA_aload_n dX2_layLast_76 rfl ?_
          refine zA_getR (n := 41) dX2_layLast_77 fX2_19 c39 rfl ?_
          refine zA_iload_n dX2_layLast_80 rfl ?_
          refine zA_iaload dX2_layLast_81 c41 (by first | assumption | omega) (by first | assumption | omega) (by decide) ?_
          refine zA_icmp_ne (tgt := 112) dX2_layLast_82 (by decide) (by first | assumption | exact hr _ _ | exact inR_mk (by omega) (by omega)) (by first | assumption | exact hr _ _ | exact inR_mk (by omega) (by omega)) (fun c82 => ?_) (fun c82 => ?_)
          · skip
            refine zA_vret dX2_layLast_112 rfl ?_
            exact ⟨rfl, rfl, Or.inr ⟨by omega, rfl⟩⟩
          · skip
            refine zA_iload dX2_layLast_85 rfl ?_
            refine zA_aload_n dX2_layLast_87 rfl ?_
            refine zA_getR (n := 42) dX2_layLast_88 fX2_22 c39 rfl ?_
            refine zA_iload_n dX2_layLast_91 rfl ?_
            refine zA_iaload dX2_layLast_92 c42 (by first | assumption | omega) (by first | assumption | omega) (by decide) ?_
            refine zA_icmp_ge (tgt := 112) dX2_layLast_93 (by decide) (by first | assumption | exact hr _ _ | exact inR_mk (by omega) (by omega)) (by first | assumption | exact hr _ _ | exact inR_mk (by omega) (by omega)) (fun c93 => ?_) (fun c93 => ?_)
            · skip
              refine zA_vret dX2_layLast_112 rfl ?_
              exact ⟨rfl, rfl, Or.inr ⟨by omega, rfl⟩⟩
            · skip
              refine zA_aload_n dX2_layLast_96 rfl ?_
              refine zA_getR (n := 41) dX2_layLast_97 fX2_19 c39 rfl ?_
              refine zA_iload_n dX2_layLast_100 rfl ?_
              refine zA_iload dX2_layLast_101 rfl ?_
              refine zA_iastore dX2_layLast_103 (by first | assumption | exact hr _ _ | exact inR_mk (by omega) (by omega)) c41 (by first | assumption | omega) (by first | assumption | omega) (by decide) ?_
              refine zA_namew (fun w_3 hw_3 => ?_)
              refine zA_range (fun hr => ?_)
              replace hw_3 : w_3 = up w 41 s (exF L x (w 41 o) (w 42 o)) := hw_3
              refine zA_aload_n dX2_layLast_104 rfl ?_
              refine zA_getR (n := 42) dX2_layLast_105 fX2_22 c39 rfl ?_
              refine zA_iload_n dX2_layLast_108 rfl ?_
              refine zA_iload dX2_layLast_109 rfl ?_
              refine zA_iastore dX2_layLast_111 (by first | assumption | exact hr _ _ | exact inR_mk (by omega) (by omega)) c42 (by first | assumption | omega) (by first | assumption | omega) (by decide) ?_
              refine zA_namew (fun w_4 hw_4 => ?_)
              refine zA_range (fun hr => ?_)
              replace hw_4 : w_4 = up w_3 42 s (exB L x (w 42 o)) := hw_4
              refine zA_vret dX2_layLast_112 rfl ?_
              exact ⟨rfl, rfl, Or.inl ⟨by omega, by rw [hw_4, hw_3]⟩⟩
      · skip
        refine zA_aload_n dX2_layLast_49 rfl ?_
        refine zA_getR (n := 42) dX2_layLast_50 fX2_22 c39 rfl ?_
        refine zA_iload_n dX2_layLast_53 rfl ?_
        refine zA_iaload dX2_layLast_54 c42 (by first | assumption | omega) (by first | assumption | omega) (by decide) ?_
        refine zA_iload_n dX2_layLast_55 rfl ?_
        refine zA_iadd dX2_layLast_56 ?_
        refine zA_goto (tgt := 61) dX2_layLast_57 (by decide) ?_
        refine zA_valI (exB L x (w 42 o)) (by unfold exB; first | (exfalso; omega) | rw [if_pos (by omega)] | rw [if_neg (by omega)]) ?_
        have heb : 0 ≤ exB L x (w 42 o) ∧ exB L x (w 42 o) ≤ L := by unfold exB; split <;> omega
        refine zA_istore (lo1 := [zR 39, zI s, zI o, zI x, zI L, zI 0, zI (exF L x (w 41 o) (w 42 o)), zI (exB L x (w 42 o))]) dX2_layLast_61 (by decide) rfl rfl ?_
        refine zA_iload dX2_layLast_63 rfl ?_
        refine zA_aload_n dX2_layLast_65 rfl ?_
        refine zA_getR (n := 41) dX2_layLast_66 fX2_19 c39 rfl ?_
        refine zA_iload_n dX2_layLast_69 rfl ?_
        refine zA_iaload dX2_layLast_70 c41 (by first | assumption | omega) (by first | assumption | omega) (by decide) ?_
        refine zA_icmp_lt (tgt := 96) dX2_layLast_71 (by decide) (by first | assumption | exact hr _ _ | exact inR_mk (by omega) (by omega)) (by first | assumption | exact hr _ _ | exact inR_mk (by omega) (by omega)) (fun c71 => ?_) (fun c71 => ?_)
        · skip
          refine zA_aload_n dX2_layLast_96 rfl ?_
          refine zA_getR (n := 41) dX2_layLast_97 fX2_19 c39 rfl ?_
          refine zA_iload_n dX2_layLast_100 rfl ?_
          refine zA_iload dX2_layLast_101 rfl ?_
          refine zA_iastore dX2_layLast_103 (by first | assumption | exact hr _ _ | exact inR_mk (by omega) (by omega)) c41 (by first | assumption | omega) (by first | assumption | omega) (by decide) ?_
          refine zA_namew (fun w_5 hw_5 => ?_)
          refine zA_range (fun hr => ?_)
          replace hw_5 : w_5 = up w 41 s (exF L x (w 41 o) (w 42 o)) := hw_5
          refine zA_aload_n dX2_layLast_104 rfl ?_
          refine zA_getR (n := 42) dX2_layLast_105 fX2_22 c39 rfl ?_
          refine zA_iload_n dX2_layLast_108 rfl ?_
          refine zA_iload dX2_layLast_109 rfl ?_
          refine zA_iastore dX2_layLast_111 (by first | assumption | exact hr _ _ | exact inR_mk (by omega) (by omega)) c42 (by first | assumption | omega) (by first | assumption | omega) (by decide) ?_
          refine zA_namew (fun w_6 hw_6 => ?_)
          refine zA_range (fun hr => ?_)
          replace hw_6 : w_6 = up w_5 42 s (exB L x (w 42 o)) := hw_6
          refine zA_vret dX2_layLast_112 rfl ?_
          exact ⟨rfl, rfl, Or.inl ⟨by omega, by rw [hw_6, hw_5]⟩⟩
        · skip
          refine zA_iload dX2_layLast_74 rfl ?_
          refine zA_aload_n dX2_layLast_76 rfl ?_
          refine zA_getR (n := 41) dX2_layLast_77 fX2_19 c39 rfl ?_
          refine zA_iload_n dX2_layLast_80 rfl ?_
          refine zA_iaload dX2_layLast_81 c41 (by first | assumption | omega) (by first | assumption | omega) (by decide) ?_
          refine zA_icmp_ne (tgt := 112) dX2_layLast_82 (by decide) (by first | assumption | exact hr _ _ | exact inR_mk (by omega) (by omega)) (by first | assumption | exact hr _ _ | exact inR_mk (by omega) (by omega)) (fun c82 => ?_) (fun c82 => ?_)
          · skip
            refine zA_vret dX2_layLast_112 rfl ?_
            exact ⟨rfl, rfl, Or.inr ⟨by omega, rfl⟩⟩
          · skip
            refine zA_iload dX2_layLast_85 rfl ?_
            refine zA_aload_n dX2_layLast_87 rfl ?_
            refine zA_getR (n := 42) dX2_layLast_88 fX2_22 c39 rfl ?_
            refine zA_iload_n dX2_layLast_91 rfl ?_
            refine zA_iaload dX2_layLast_92 c42 (by first | assumption | omega) (by first | assumption | omega) (by decide) ?_
            refine zA_icmp_ge (tgt := 112) dX2_layLast_93 (by decide) (by first | assumption | exact hr _ _ | exact inR_mk (by omega) (by omega)) (by first | assumption | exact hr _ _ | exact inR_mk (by omega) (by omega)) (fun c93 => ?_) (fun c93 => ?_)
            · skip
              refine zA_vret dX2_layLast_112 rfl ?_
              exact ⟨rfl, rfl, Or.inr ⟨by omega, rfl⟩⟩
            · skip
              refine zA_aload_n dX2_layLast_96 rfl ?_
              refine zA_getR (n := 41) dX2_layLast_97 fX2_19 c39 rfl ?_
              refine zA_iload_n dX2_layLast_100 rfl ?_
              refine zA_iload dX2_layLast_101 rfl ?_
              refine zA_iastore dX2_layLast_103 (by first | assumption | exact hr _ _ | exact inR_mk (by omega) (by omega)) c41 (by first | assumption | omega) (by first | assumption | omega) (by decide) ?_
              refine zA_namew (fun w_7 hw_7 => ?_)
              refine zA_range (fun hr => ?_)
              replace hw_7 : w_7 = up w 41 s (exF L x (w 41 o) (w 42 o)) := hw_7
              refine zA_aload_n dX2_layLast_104 rfl ?_
              refine zA_getR (n := 42) dX2_layLast_105 fX2_22 c39 rfl ?_
              refine zA_iload_n dX2_layLast_108 rfl ?_
              refine zA_iload dX2_layLast_109 rfl ?_
              refine zA_iastore dX2_layLast_111 (by first | assumption | exact hr _ _ | exact inR_mk (by omega) (by omega)) c42 (by first | assumption | omega) (by first | assumption | omega) (by decide) ?_
              refine zA_namew (fun w_8 hw_8 => ?_)
              refine zA_range (fun hr => ?_)
              replace hw_8 : w_8 = up w_7 42 s (exB L x (w 42 o)) := hw_8
              refine zA_vret dX2_layLast_112 rfl ?_
              exact ⟨rfl, rfl, Or.inl ⟨by omega, by rw [hw_8, hw_7]⟩⟩
    · skip
      refine zA_aload_n dX2_layLast_25 rfl ?_
      refine zA_getR (n := 41) dX2_layLast_26 fX2_19 c39 rfl ?_
      refine zA_iload_n dX2_layLast_29 rfl ?_
      refine zA_iaload dX2_layLast_30 c41 (by first | assumption | omega) (by first | assumption | omega) (by decide) ?_
      refine zA_goto (tgt := 42) dX2_layLast_31 (by decide) ?_
      refine zA_valI (exF L x (w 41 o) (w 42 o)) (by unfold exF; first | (exfalso; omega) | rw [if_pos (by omega)] | rw [if_neg (by omega)]) ?_
      have hef : 0 ≤ exF L x (w 41 o) (w 42 o) ∧ exF L x (w 41 o) (w 42 o) ≤ 11 := by unfold exF; split <;> omega
      refine zA_istore (lo1 := [zR 39, zI s, zI o, zI x, zI L, zI 0, zI (exF L x (w 41 o) (w 42 o)), .null]) dX2_layLast_42 (by decide) rfl rfl ?_
      refine zA_iload dX2_layLast_44 rfl ?_
      refine zA_if_eq (tgt := 60) dX2_layLast_46 (by decide) ⟨by decide, by decide⟩ (fun c46 => ?_) (fun c46 => ?_)
      · skip
        refine zA_iload_n dX2_layLast_60 rfl ?_
        refine zA_valI (exB L x (w 42 o)) (by unfold exB; first | (exfalso; omega) | rw [if_pos (by omega)] | rw [if_neg (by omega)]) ?_
        have heb : 0 ≤ exB L x (w 42 o) ∧ exB L x (w 42 o) ≤ L := by unfold exB; split <;> omega
        refine zA_istore (lo1 := [zR 39, zI s, zI o, zI x, zI L, zI 0, zI (exF L x (w 41 o) (w 42 o)), zI (exB L x (w 42 o))]) dX2_layLast_61 (by decide) rfl rfl ?_
        refine zA_iload dX2_layLast_63 rfl ?_
        refine zA_aload_n dX2_layLast_65 rfl ?_
        refine zA_getR (n := 41) dX2_layLast_66 fX2_19 c39 rfl ?_
        refine zA_iload_n dX2_layLast_69 rfl ?_
        refine zA_iaload dX2_layLast_70 c41 (by first | assumption | omega) (by first | assumption | omega) (by decide) ?_
        refine zA_icmp_lt (tgt := 96) dX2_layLast_71 (by decide) (by first | assumption | exact hr _ _ | exact inR_mk (by omega) (by omega)) (by first | assumption | exact hr _ _ | exact inR_mk (by omega) (by omega)) (fun c71 => ?_) (fun c71 => ?_)
        · skip
          refine zA_aload_n dX2_layLast_96 rfl ?_
          refine zA_getR (n := 41) dX2_layLast_97 fX2_19 c39 rfl ?_
          refine zA_iload_n dX2_layLast_100 rfl ?_
          refine zA_iload dX2_layLast_101 rfl ?_
          refine zA_iastore dX2_layLast_103 (by first | assumption | exact hr _ _ | exact inR_mk (by omega) (by omega)) c41 (by first | assumption | omega) (by first | assumption | omega) (by decide) ?_
          refine zA_namew (fun w_9 hw_9 => ?_)
          refine zA_range (fun hr => ?_)
          replace hw_9 : w_9 = up w 41 s (exF L x (w 41 o) (w 42 o)) := hw_9
          refine zA_aload_n dX2_layLast_104 rfl ?_
          refine zA_getR (n := 42) dX2_layLast_105 fX2_22 c39 rfl ?_
          refine zA_iload_n dX2_layLast_108 rfl ?_
          refine zA_iload dX2_layLast_109 rfl ?_
          refine zA_iastore dX2_layLast_111 (by first | assumption | exact hr _ _ | exact inR_mk (by omega) (by omega)) c42 (by first | assumption | omega) (by first | assumption | omega) (by decide) ?_
          refine zA_namew (fun w_10 hw_10 => ?_)
          refine zA_range (fun hr => ?_)
          replace hw_10 : w_10 = up w_9 42 s (exB L x (w 42 o)) := hw_10
          refine zA_vret dX2_layLast_112 rfl ?_
          exact ⟨rfl, rfl, Or.inl ⟨by omega, by rw [hw_10, hw_9]⟩⟩
        · skip
          refine zA_iload dX2_layLast_74 rfl ?_
          refine zA_aload_n dX2_layLast_76 rfl ?_
          refine zA_getR (n := 41) dX2_layLast_77 fX2_19 c39 rfl ?_
          refine zA_iload_n dX2_layLast_80 rfl ?_
          refine zA_iaload dX2_layLast_81 c41 (by first | assumption | omega) (by first | assumption | omega) (by decide) ?_
          refine zA_icmp_ne (tgt := 112) dX2_layLast_82 (by decide) (by first | assumption | exact hr _ _ | exact inR_mk (by omega) (by omega)) (by first | assumption | exact hr _ _ | exact inR_mk (by omega) (by omega)) (fun c82 => ?_) (fun c82 => ?_)
          · skip
            refine zA_vret dX2_layLast_112 rfl ?_
            exact ⟨rfl, rfl, Or.inr ⟨by omega, rfl⟩⟩
          · skip
            refine zA_iload dX2_layLast_85 rfl ?_
            refine zA_aload_n dX2_layLast_87 rfl ?_
            refine zA_getR (n := 42) dX2_layLast_88 fX2_22 c39 rfl ?_
            refine zA_iload_n dX2_layLast_91 rfl ?_
            refine zA_iaload dX2_layLast_92 c42 (by first | assumption | omega) (by first | assumption | omega) (by decide) ?_
            refine zA_icmp_ge (tgt := 112) dX2_layLast_93 (by decide) (by first | assumption | exact hr _ _ | exact inR_mk (by omega) (by omega)) (by first | assumption | exact hr _ _ | exact inR_mk (by omega) (by omega)) (fun c93 => ?_) (fun c93 => ?_)
            · skip
              refine zA_vret dX2_layLast_112 rfl ?_
              exact ⟨rfl, rfl, Or.inr ⟨by omega, rfl⟩⟩
            · skip
              refine zA_aload_n dX2_layLast_96 rfl ?_
              refine zA_getR (n := 41) dX2_layLast_97 fX2_19 c39 rfl ?_
              refine zA_iload_n dX2_layLast_100 rfl ?_
              refine zA_iload dX2_layLast_101 rfl ?_
              refine zA_iastore dX2_layLast_103 (by first | assumption | exact hr _ _ | exact inR_mk (by omega) (by omega)) c41 (by first | assumption | omega) (by first | assumption | omega) (by decide) ?_
              refine zA_namew (fun w_11 hw_11 => ?_)
              refine zA_range (fun hr => ?_)
              replace hw_11 : w_11 = up w 41 s (exF L x (w 41 o) (w 42 o)) := hw_11
              refine zA_aload_n dX2_layLast_104 rfl ?_
              refine zA_getR (n := 42) dX2_layLast_105 fX2_22 c39 rfl ?_
              refine zA_iload_n dX2_layLast_108 rfl ?_
              refine zA_iload dX2_layLast_109 rfl ?_
              refine zA_iastore dX2_layLast_111 (by first | assumption | exact hr _ _ | exact inR_mk (by omega) (by omega)) c42 (by first | assumption | omega) (by first | assumption | omega) (by decide) ?_
              refine zA_namew (fun w_12 hw_12 => ?_)
              refine zA_range (fun hr => ?_)
              replace hw_12 : w_12 = up w_11 42 s (exB L x (w 42 o)) := hw_12
              refine zA_vret dX2_layLast_112 rfl ?_
              exact ⟨rfl, rfl, Or.inl ⟨by omega, by rw [hw_12, hw_11]⟩⟩
      · skip
        refine zA_aload_n dX2_layLast_49 rfl ?_
        refine zA_getR (n := 42) dX2_layLast_50 fX2_22 c39 rfl ?_
        refine zA_iload_n dX2_layLast_53 rfl ?_
        refine zA_iaload dX2_layLast_54 c42 (by first | assumption | omega) (by first | assumption | omega) (by decide) ?_
        refine zA_iload_n dX2_layLast_55 rfl ?_
        refine zA_iadd dX2_layLast_56 ?_
        refine zA_goto (tgt := 61) dX2_layLast_57 (by decide) ?_
        refine zA_valI (exB L x (w 42 o)) (by unfold exB; first | (exfalso; omega) | rw [if_pos (by omega)] | rw [if_neg (by omega)]) ?_
        have heb : 0 ≤ exB L x (w 42 o) ∧ exB L x (w 42 o) ≤ L := by unfold exB; split <;> omega
        refine zA_istore (lo1 := [zR 39, zI s, zI o, zI x, zI L, zI 0, zI (exF L x (w 41 o) (w 42 o)), zI (exB L x (w 42 o))]) dX2_layLast_61 (by decide) rfl rfl ?_
        refine zA_iload dX2_layLast_63 rfl ?_
        refine zA_aload_n dX2_layLast_65 rfl ?_
        refine zA_getR (n := 41) dX2_layLast_66 fX2_19 c39 rfl ?_
        refine zA_iload_n dX2_layLast_69 rfl ?_
        refine zA_iaload dX2_layLast_70 c41 (by first | assumption | omega) (by first | assumption | omega) (by decide) ?_
        refine zA_icmp_lt (tgt := 96) dX2_layLast_71 (by decide) (by first | assumption | exact hr _ _ | exact inR_mk (by omega) (by omega)) (by first | assumption | exact hr _ _ | exact inR_mk (by omega) (by omega)) (fun c71 => ?_) (fun c71 => ?_)
        · skip
          refine zA_aload_n dX2_layLast_96 rfl ?_
          refine zA_getR (n := 41) dX2_layLast_97 fX2_19 c39 rfl ?_
          refine zA_iload_n dX2_layLast_100 rfl ?_
          refine zA_iload dX2_layLast_101 rfl ?_
          refine zA_iastore dX2_layLast_103 (by first | assumption | exact hr _ _ | exact inR_mk (by omega) (by omega)) c41 (by first | assumption | omega) (by first | assumption | omega) (by decide) ?_
          refine zA_namew (fun w_13 hw_13 => ?_)
          refine zA_range (fun hr => ?_)
          replace hw_13 : w_13 = up w 41 s (exF L x (w 41 o) (w 42 o)) := hw_13
          refine zA_aload_n dX2_layLast_104 rfl ?_
          refine zA_getR (n := 42) dX2_layLast_105 fX2_22 c39 rfl ?_
          refine zA_iload_n dX2_layLast_108 rfl ?_
          refine zA_iload dX2_layLast_109 rfl ?_
          refine zA_iastore dX2_layLast_111 (by first | assumption | exact hr _ _ | exact inR_mk (by omega) (by omega)) c42 (by first | assumption | omega) (by first | assumption | omega) (by decide) ?_
          refine zA_namew (fun w_14 hw_14 => ?_)
          refine zA_range (fun hr => ?_)
          replace hw_14 : w_14 = up w_13 42 s (exB L x (w 42 o)) := hw_14
          refine zA_vret dX2_layLast_112 rfl ?_
          exact ⟨rfl, rfl, Or.inl ⟨by omega, by rw [hw_14, hw_13]⟩⟩
        · skip
          refine zA_iload dX2_layLast_74 rfl ?_
          refine zA_aload_n dX2_layLast_76 rfl ?_
          refine zA_getR (n := 41) dX2_layLast_77 fX2_19 c39 rfl ?_
          refine zA_iload_n dX2_layLast_80 rfl ?_
          refine zA_iaload dX2_layLast_81 c41 (by first | assumption | omega) (by first | assumption | omega) (by decide) ?_
          refine zA_icmp_ne (tgt := 112) dX2_layLast_82 (by decide) (by first | assumption | exact hr _ _ | exact inR_mk (by omega) (by omega)) (by first | assumption | exact hr _ _ | exact inR_mk (by omega) (by omega)) (fun c82 => ?_) (fun c82 => ?_)
          · skip
            refine zA_vret dX2_layLast_112 rfl ?_
            exact ⟨rfl, rfl, Or.inr ⟨by omega, rfl⟩⟩
          · skip
            refine zA_iload dX2_layLast_85 rfl ?_
            refine zA_aload_n dX2_layLast_87 rfl ?_
            refine zA_getR (n := 42) dX2_layLast_88 fX2_22 c39 rfl ?_
            refine zA_iload_n dX2_layLast_91 rfl ?_
            refine zA_iaload dX2_layLast_92 c42 (by first | assumption | omega) (by first | assumption | omega) (by decide) ?_
            refine zA_icmp_ge (tgt := 112) dX2_layLast_93 (by decide) (by first | assumption | exact hr _ _ | exact inR_mk (by omega) (by omega)) (by first | assumption | exact hr _ _ | exact inR_mk (by omega) (by omega)) (fun c93 => ?_) (fun c93 => ?_)
            · skip
              refine zA_vret dX2_layLast_112 rfl ?_
              exact ⟨rfl, rfl, Or.inr ⟨by omega, rfl⟩⟩
            · skip
              refine zA_aload_n dX2_layLast_96 rfl ?_
              refine zA_getR (n := 41) dX2_layLast_97 fX2_19 c39 rfl ?_
              refine zA_iload_n dX2_layLast_100 rfl ?_
              refine zA_iload dX2_layLast_101 rfl ?_
              refine zA_iastore dX2_layLast_103 (by first | assumption | exact hr _ _ | exact inR_mk (by omega) (by omega)) c41 (by first | assumption | omega) (by first | assumption | omega) (by decide) ?_
              refine zA_namew (fun w_15 hw_15 => ?_)
              refine zA_range (fun hr => ?_)
              replace hw_15 : w_15 = up w 41 s (exF L x (w 41 o) (w 42 o)) := hw_15
              refine zA_aload_n dX2_layLast_104 rfl ?_
              refine zA_getR (n := 42) dX2_layLast_105 fX2_22 c39 rfl ?_
              refine zA_iload_n dX2_layLast_108 rfl ?_
              refine zA_iload dX2_layLast_109 rfl ?_
              refine zA_iastore dX2_layLast_111 (by first | assumption | exact hr _ _ | exact inR_mk (by omega) (by omega)) c42 (by first | assumption | omega) (by first | assumption | omega) (by decide) ?_
              refine zA_namew (fun w_16 hw_16 => ?_)
              refine zA_range (fun hr => ?_)
              replace hw_16 : w_16 = up w_15 42 s (exB L x (w 42 o)) := hw_16
              refine zA_vret dX2_layLast_112 rfl ?_
              exact ⟨rfl, rfl, Or.inl ⟨by omega, by rw [hw_16, hw_15]⟩⟩
  · skip
    refine zA_iconst dX2_layLast_13 ?_
    refine zA_goto (tgt := 18) dX2_layLast_14 (by decide) ?_
    refine zA_istore (lo1 := [zR 39, zI s, zI o, zI x, zI L, zI 1, .null, .null]) dX2_layLast_18 (by decide) rfl rfl ?_
    refine zA_iload dX2_layLast_20 rfl ?_
    refine zA_if_eq (tgt := 34) dX2_layLast_22 (by decide) ⟨by decide, by decide⟩ (fun c22 => ?_) (fun c22 => ?_)
    · skip
      refine zA_aload_n dX2_layLast_34 rfl ?_
      refine zA_getR (n := 41) dX2_layLast_35 fX2_19 c39 rfl ?_
      refine zA_iload_n dX2_layLast_38 rfl ?_
      refine zA_iaload dX2_layLast_39 c41 (by first | assumption | omega) (by first | assumption | omega) (by decide) ?_
      refine zA_iconst dX2_layLast_40 ?_
      refine zA_iadd dX2_layLast_41 ?_
      refine zA_valI (exF L x (w 41 o) (w 42 o)) (by unfold exF; first | (exfalso; omega) | rw [if_pos (by omega)] | rw [if_neg (by omega)]) ?_
      have hef : 0 ≤ exF L x (w 41 o) (w 42 o) ∧ exF L x (w 41 o) (w 42 o) ≤ 11 := by unfold exF; split <;> omega
      refine zA_istore (lo1 := [zR 39, zI s, zI o, zI x, zI L, zI 1, zI (exF L x (w 41 o) (w 42 o)), .null]) dX2_layLast_42 (by decide) rfl rfl ?_
      refine zA_iload dX2_layLast_44 rfl ?_
      refine zA_if_eq (tgt := 60) dX2_layLast_46 (by decide) ⟨by decide, by decide⟩ (fun c46 => ?_) (fun c46 => ?_)
      · skip
        refine zA_iload_n dX2_layLast_60 rfl ?_
        refine zA_valI (exB L x (w 42 o)) (by unfold exB; first | (exfalso; omega) | rw [if_pos (by omega)] | rw [if_neg (by omega)]) ?_
        have heb : 0 ≤ exB L x (w 42 o) ∧ exB L x (w 42 o) ≤ L := by unfold exB; split <;> omega
        refine zA_istore (lo1 := [zR 39, zI s, zI o, zI x, zI L, zI 1, zI (exF L x (w 41 o) (w 42 o)), zI (exB L x (w 42 o))]) dX2_layLast_61 (by decide) rfl rfl ?_
        refine zA_iload dX2_layLast_63 rfl ?_
        refine zA_aload_n dX2_layLast_65 rfl ?_
        refine zA_getR (n := 41) dX2_layLast_66 fX2_19 c39 rfl ?_
        refine zA_iload_n dX2_layLast_69 rfl ?_
        refine zA_iaload dX2_layLast_70 c41 (by first | assumption | omega) (by first | assumption | omega) (by decide) ?_
        refine zA_icmp_lt (tgt := 96) dX2_layLast_71 (by decide) (by first | assumption | exact hr _ _ | exact inR_mk (by omega) (by omega)) (by first | assumption | exact hr _ _ | exact inR_mk (by omega) (by omega)) (fun c71 => ?_) (fun c71 => ?_)
        · skip
          refine zA_aload_n dX2_layLast_96 rfl ?_
          refine zA_getR (n := 41) dX2_layLast_97 fX2_19 c39 rfl ?_
          refine zA_iload_n dX2_layLast_100 rfl ?_
          refine zA_iload dX2_layLast_101 rfl ?_
          refine zA_iastore dX2_layLast_103 (by first | assumption | exact hr _ _ | exact inR_mk (by omega) (by omega)) c41 (by first | assumption | omega) (by first | assumption | omega) (by decide) ?_
          refine zA_namew (fun w_17 hw_17 => ?_)
          refine zA_range (fun hr => ?_)
          replace hw_17 : w_17 = up w 41 s (exF L x (w 41 o) (w 42 o)) := hw_17
          refine zA_aload_n dX2_layLast_104 rfl ?_
          refine zA_getR (n := 42) dX2_layLast_105 fX2_22 c39 rfl ?_
          refine zA_iload_n dX2_layLast_108 rfl ?_
          refine zA_iload dX2_layLast_109 rfl ?_
          refine zA_iastore dX2_layLast_111 (by first | assumption | exact hr _ _ | exact inR_mk (by omega) (by omega)) c42 (by first | assumption | omega) (by first | assumption | omega) (by decide) ?_
          refine zA_namew (fun w_18 hw_18 => ?_)
          refine zA_range (fun hr => ?_)
          replace hw_18 : w_18 = up w_17 42 s (exB L x (w 42 o)) := hw_18
          refine zA_vret dX2_layLast_112 rfl ?_
          exact ⟨rfl, rfl, Or.inl ⟨by omega, by rw [hw_18, hw_17]⟩⟩
        · skip
          refine zA_iload dX2_layLast_74 rfl ?_
          refine zA_aload_n dX2_layLast_76 rfl ?_
          refine zA_getR (n := 41) dX2_layLast_77 fX2_19 c39 rfl ?_
          refine zA_iload_n dX2_layLast_80 rfl ?_
          refine zA_iaload dX2_layLast_81 c41 (by first | assumption | omega) (by first | assumption | omega) (by decide) ?_
          refine zA_icmp_ne (tgt := 112) dX2_layLast_82 (by decide) (by first | assumption | exact hr _ _ | exact inR_mk (by omega) (by omega)) (by first | assumption | exact hr _ _ | exact inR_mk (by omega) (by omega)) (fun c82 => ?_) (fun c82 => ?_)
          · skip
            refine zA_vret dX2_layLast_112 rfl ?_
            exact ⟨rfl, rfl, Or.inr ⟨by omega, rfl⟩⟩
          · skip
            refine zA_iload dX2_layLast_85 rfl ?_
            refine zA_aload_n dX2_layLast_87 rfl ?_
            refine zA_getR (n := 42) dX2_layLast_88 fX2_22 c39 rfl ?_
            refine zA_iload_n dX2_layLast_91 rfl ?_
            refine zA_iaload dX2_layLast_92 c42 (by first | assumption | omega) (by first | assumption | omega) (by decide) ?_
            refine zA_icmp_ge (tgt := 112) dX2_layLast_93 (by decide) (by first | assumption | exact hr _ _ | exact inR_mk (by omega) (by omega)) (by first | assumption | exact hr _ _ | exact inR_mk (by omega) (by omega)) (fun c93 => ?_) (fun c93 => ?_)
            · skip
              refine zA_vret dX2_layLast_112 rfl ?_
              exact ⟨rfl, rfl, Or.inr ⟨by omega, rfl⟩⟩
            · skip
              refine zA_aload_n dX2_layLast_96 rfl ?_
              refine zA_getR (n := 41) dX2_layLast_97 fX2_19 c39 rfl ?_
              refine zA_iload_n dX2_layLast_100 rfl ?_
              refine zA_iload dX2_layLast_101 rfl ?_
              refine zA_iastore dX2_layLast_103 (by first | assumption | exact hr _ _ | exact inR_mk (by omega) (by omega)) c41 (by first | assumption | omega) (by first | assumption | omega) (by decide) ?_
              refine zA_namew (fun w_19 hw_19 => ?_)
              refine zA_range (fun hr => ?_)
              replace hw_19 : w_19 = up w 41 s (exF L x (w 41 o) (w 42 o)) := hw_19
              refine zA_aload_n dX2_layLast_104 rfl ?_
              refine zA_getR (n := 42) dX2_layLast_105 fX2_22 c39 rfl ?_
              refine zA_iload_n dX2_layLast_108 rfl ?_
              refine zA_iload dX2_layLast_109 rfl ?_
              refine zA_iastore dX2_layLast_111 (by first | assumption | exact hr _ _ | exact inR_mk (by omega) (by omega)) c42 (by first | assumption | omega) (by first | assumption | omega) (by decide) ?_
              refine zA_namew (fun w_20 hw_20 => ?_)
              refine zA_range (fun hr => ?_)
              replace hw_20 : w_20 = up w_19 42 s (exB L x (w 42 o)) := hw_20
              refine zA_vret dX2_layLast_112 rfl ?_
              exact ⟨rfl, rfl, Or.inl ⟨by omega, by rw [hw_20, hw_19]⟩⟩
      · skip
        refine zA_aload_n dX2_layLast_49 rfl ?_
        refine zA_getR (n := 42) dX2_layLast_50 fX2_22 c39 rfl ?_
        refine zA_iload_n dX2_layLast_53 rfl ?_
        refine zA_iaload dX2_layLast_54 c42 (by first | assumption | omega) (by first | assumption | omega) (by decide) ?_
        refine zA_iload_n dX2_layLast_55 rfl ?_
        refine zA_iadd dX2_layLast_56 ?_
        refine zA_goto (tgt := 61) dX2_layLast_57 (by decide) ?_
        refine zA_valI (exB L x (w 42 o)) (by unfold exB; first | (exfalso; omega) | rw [if_pos (by omega)] | rw [if_neg (by omega)]) ?_
        have heb : 0 ≤ exB L x (w 42 o) ∧ exB L x (w 42 o) ≤ L := by unfold exB; split <;> omega
        refine zA_istore (lo1 := [zR 39, zI s, zI o, zI x, zI L, zI 1, zI (exF L x (w 41 o) (w 42 o)), zI (exB L x (w 42 o))]) dX2_layLast_61 (by decide) rfl rfl ?_
        refine zA_iload dX2_layLast_63 rfl ?_
        refine zA_aload_n dX2_layLast_65 rfl ?_
        refine zA_getR (n := 41) dX2_layLast_66 fX2_19 c39 rfl ?_
        refine zA_iload_n dX2_layLast_69 rfl ?_
        refine zA_iaload dX2_layLast_70 c41 (by first | assumption | omega) (by first | assumption | omega) (by decide) ?_
        refine zA_icmp_lt (tgt := 96) dX2_layLast_71 (by decide) (by first | assumption | exact hr _ _ | exact inR_mk (by omega) (by omega)) (by first | assumption | exact hr _ _ | exact inR_mk (by omega) (by omega)) (fun c71 => ?_) (fun c71 => ?_)
        · skip
          refine zA_aload_n dX2_layLast_96 rfl ?_
          refine zA_getR (n := 41) dX2_layLast_97 fX2_19 c39 rfl ?_
          refine zA_iload_n dX2_layLast_100 rfl ?_
          refine zA_iload dX2_layLast_101 rfl ?_
          refine zA_iastore dX2_layLast_103 (by first | assumption | exact hr _ _ | exact inR_mk (by omega) (by omega)) c41 (by first | assumption | omega) (by first | assumption | omega) (by decide) ?_
          refine zA_namew (fun w_21 hw_21 => ?_)
          refine zA_range (fun hr => ?_)
          replace hw_21 : w_21 = up w 41 s (exF L x (w 41 o) (w 42 o)) := hw_21
          refine zA_aload_n dX2_layLast_104 rfl ?_
          refine zA_getR (n := 42) dX2_layLast_105 fX2_22 c39 rfl ?_
          refine zA_iload_n dX2_layLast_108 rfl ?_
          refine zA_iload dX2_layLast_109 rfl ?_
          refine zA_iastore dX2_layLast_111 (by first | assumption | exact hr _ _ | exact inR_mk (by omega) (by omega)) c42 (by first | assumption | omega) (by first | assumption | omega) (by decide) ?_
          refine zA_namew (fun w_22 hw_22 => ?_)
          refine zA_range (fun hr => ?_)
          replace hw_22 : w_22 = up w_21 42 s (exB L x (w 42 o)) := hw_22
          refine zA_vret dX2_layLast_112 rfl ?_
          exact ⟨rfl, rfl, Or.inl ⟨by omega, by rw [hw_22, hw_21]⟩⟩
        · skip
          refine zA_iload dX2_layLast_74 rfl ?_
          refine zA_aload_n dX2_layLast_76 rfl ?_
          refine zA_getR (n := 41) dX2_layLast_77 fX2_19 c39 rfl ?_
          refine zA_iload_n dX2_layLast_80 rfl ?_
          refine zA_iaload dX2_layLast_81 c41 (by first | assumption | omega) (by first | assumption | omega) (by decide) ?_
          refine zA_icmp_ne (tgt := 112) dX2_layLast_82 (by decide) (by first | assumption | exact hr _ _ | exact inR_mk (by omega) (by omega)) (by first | assumption | exact hr _ _ | exact inR_mk (by omega) (by omega)) (fun c82 => ?_) (fun c82 => ?_)
          · skip
            refine zA_vret dX2_layLast_112 rfl ?_
            exact ⟨rfl, rfl, Or.inr ⟨by omega, rfl⟩⟩
          · skip
            refine zA_iload dX2_layLast_85 rfl ?_
            refine zA_aload_n dX2_layLast_87 rfl ?_
            refine zA_getR (n := 42) dX2_layLast_88 fX2_22 c39 rfl ?_
            refine zA_iload_n dX2_layLast_91 rfl ?_
            refine zA_iaload dX2_layLast_92 c42 (by first | assumption | omega) (by first | assumption | omega) (by decide) ?_
            refine zA_icmp_ge (tgt := 112) dX2_layLast_93 (by decide) (by first | assumption | exact hr _ _ | exact inR_mk (by omega) (by omega)) (by first | assumption | exact hr _ _ | exact inR_mk (by omega) (by omega)) (fun c93 => ?_) (fun c93 => ?_)
            · skip
              refine zA_vret dX2_layLast_112 rfl ?_
              exact ⟨rfl, rfl, Or.inr ⟨by omega, rfl⟩⟩
            · skip
              refine zA_aload_n dX2_layLast_96 rfl ?_
              refine zA_getR (n := 41) dX2_layLast_97 fX2_19 c39 rfl ?_
              refine zA_iload_n dX2_layLast_100 rfl ?_
              refine zA_iload dX2_layLast_101 rfl ?_
              refine zA_iastore dX2_layLast_103 (by first | assumption | exact hr _ _ | exact inR_mk (by omega) (by omega)) c41 (by first | assumption | omega) (by first | assumption | omega) (by decide) ?_
              refine zA_namew (fun w_23 hw_23 => ?_)
              refine zA_range (fun hr => ?_)
              replace hw_23 : w_23 = up w 41 s (exF L x (w 41 o) (w 42 o)) := hw_23
              refine zA_aload_n dX2_layLast_104 rfl ?_
              refine zA_getR (n := 42) dX2_layLast_105 fX2_22 c39 rfl ?_
              refine zA_iload_n dX2_layLast_108 rfl ?_
              refine zA_iload dX2_layLast_109 rfl ?_
              refine zA_iastore dX2_layLast_111 (by first | assumption | exact hr _ _ | exact inR_mk (by omega) (by omega)) c42 (by first | assumption | omega) (by first | assumption | omega) (by decide) ?_
              refine zA_namew (fun w_24 hw_24 => ?_)
              refine zA_range (fun hr => ?_)
              replace hw_24 : w_24 = up w_23 42 s (exB L x (w 42 o)) := hw_24
              refine zA_vret dX2_layLast_112 rfl ?_
              exact ⟨rfl, rfl, Or.inl ⟨by omega, by rw [hw_24, hw_23]⟩⟩
    · skip
      refine zA_aload_n dX2_layLast_25 rfl ?_
      refine zA_getR (n := 41) dX2_layLast_26 fX2_19 c39 rfl ?_
      refine zA_iload_n dX2_layLast_29 rfl ?_
      refine zA_iaload dX2_layLast_30 c41 (by first | assumption | omega) (by first | assumption | omega) (by decide) ?_
      refine zA_goto (tgt := 42) dX2_layLast_31 (by decide) ?_
      refine zA_valI (exF L x (w 41 o) (w 42 o)) (by unfold exF; first | (exfalso; omega) | rw [if_pos (by omega)] | rw [if_neg (by omega)]) ?_
      have hef : 0 ≤ exF L x (w 41 o) (w 42 o) ∧ exF L x (w 41 o) (w 42 o) ≤ 11 := by unfold exF; split <;> omega
      refine zA_istore (lo1 := [zR 39, zI s, zI o, zI x, zI L, zI 1, zI (exF L x (w 41 o) (w 42 o)), .null]) dX2_layLast_42 (by decide) rfl rfl ?_
      refine zA_iload dX2_layLast_44 rfl ?_
      refine zA_if_eq (tgt := 60) dX2_layLast_46 (by decide) ⟨by decide, by decide⟩ (fun c46 => ?_) (fun c46 => ?_)
      · skip
        refine zA_iload_n dX2_layLast_60 rfl ?_
        refine zA_valI (exB L x (w 42 o)) (by unfold exB; first | (exfalso; omega) | rw [if_pos (by omega)] | rw [if_neg (by omega)]) ?_
        have heb : 0 ≤ exB L x (w 42 o) ∧ exB L x (w 42 o) ≤ L := by unfold exB; split <;> omega
        refine zA_istore (lo1 := [zR 39, zI s, zI o, zI x, zI L, zI 1, zI (exF L x (w 41 o) (w 42 o)), zI (exB L x (w 42 o))]) dX2_layLast_61 (by decide) rfl rfl ?_
        refine zA_iload dX2_layLast_63 rfl ?_
        refine zA_aload_n dX2_layLast_65 rfl ?_
        refine zA_getR (n := 41) dX2_layLast_66 fX2_19 c39 rfl ?_
        refine zA_iload_n dX2_layLast_69 rfl ?_
        refine zA_iaload dX2_layLast_70 c41 (by first | assumption | omega) (by first | assumption | omega) (by decide) ?_
        refine zA_icmp_lt (tgt := 96) dX2_layLast_71 (by decide) (by first | assumption | exact hr _ _ | exact inR_mk (by omega) (by omega)) (by first | assumption | exact hr _ _ | exact inR_mk (by omega) (by omega)) (fun c71 => ?_) (fun c71 => ?_)
        · skip
          refine zA_aload_n dX2_layLast_96 rfl ?_
          refine zA_getR (n := 41) dX2_layLast_97 fX2_19 c39 rfl ?_
          refine zA_iload_n dX2_layLast_100 rfl ?_
          refine zA_iload dX2_layLast_101 rfl ?_
          refine zA_iastore dX2_layLast_103 (by first | assumption | exact hr _ _ | exact inR_mk (by omega) (by omega)) c41 (by first | assumption | omega) (by first | assumption | omega) (by decide) ?_
          refine zA_namew (fun w_25 hw_25 => ?_)
          refine zA_range (fun hr => ?_)
          replace hw_25 : w_25 = up w 41 s (exF L x (w 41 o) (w 42 o)) := hw_25
          refine zA_aload_n dX2_layLast_104 rfl ?_
          refine zA_getR (n := 42) dX2_layLast_105 fX2_22 c39 rfl ?_
          refine zA_iload_n dX2_layLast_108 rfl ?_
          refine zA_iload dX2_layLast_109 rfl ?_
          refine zA_iastore dX2_layLast_111 (by first | assumption | exact hr _ _ | exact inR_mk (by omega) (by omega)) c42 (by first | assumption | omega) (by first | assumption | omega) (by decide) ?_
          refine zA_namew (fun w_26 hw_26 => ?_)
          refine zA_range (fun hr => ?_)
          replace hw_26 : w_26 = up w_25 42 s (exB L x (w 42 o)) := hw_26
          refine zA_vret dX2_layLast_112 rfl ?_
          exact ⟨rfl, rfl, Or.inl ⟨by omega, by rw [hw_26, hw_25]⟩⟩
        · skip
          refine zA_iload dX2_layLast_74 rfl ?_
          refine zA_aload_n dX2_layLast_76 rfl ?_
          refine zA_getR (n := 41) dX2_layLast_77 fX2_19 c39 rfl ?_
          refine zA_iload_n dX2_layLast_80 rfl ?_
          refine zA_iaload dX2_layLast_81 c41 (by first | assumption | omega) (by first | assumption | omega) (by decide) ?_
          refine zA_icmp_ne (tgt := 112) dX2_layLast_82 (by decide) (by first | assumption | exact hr _ _ | exact inR_mk (by omega) (by omega)) (by first | assumption | exact hr _ _ | exact inR_mk (by omega) (by omega)) (fun c82 => ?_) (fun c82 => ?_)
          · skip
            refine zA_vret dX2_layLast_112 rfl ?_
            exact ⟨rfl, rfl, Or.inr ⟨by omega, rfl⟩⟩
          · skip
            refine zA_iload dX2_layLast_85 rfl ?_
            refine zA_aload_n dX2_layLast_87 rfl ?_
            refine zA_getR (n := 42) dX2_layLast_88 fX2_22 c39 rfl ?_
            refine zA_iload_n dX2_layLast_91 rfl ?_
            refine zA_iaload dX2_layLast_92 c42 (by first | assumption | omega) (by first | assumption | omega) (by decide) ?_
            refine zA_icmp_ge (tgt := 112) dX2_layLast_93 (by decide) (by first | assumption | exact hr _ _ | exact inR_mk (by omega) (by omega)) (by first | assumption | exact hr _ _ | exact inR_mk (by omega) (by omega)) (fun c93 => ?_) (fun c93 => ?_)
            · skip
              refine zA_vret dX2_layLast_112 rfl ?_
              exact ⟨rfl, rfl, Or.inr ⟨by omega, rfl⟩⟩
            · skip
              refine zA_aload_n dX2_layLast_96 rfl ?_
              refine zA_getR (n := 41) dX2_layLast_97 fX2_19 c39 rfl ?_
              refine zA_iload_n dX2_layLast_100 rfl ?_
              refine zA_iload dX2_layLast_101 rfl ?_
              refine zA_iastore dX2_layLast_103 (by first | assumption | exact hr _ _ | exact inR_mk (by omega) (by omega)) c41 (by first | assumption | omega) (by first | assumption | omega) (by decide) ?_
              refine zA_namew (fun w_27 hw_27 => ?_)
              refine zA_range (fun hr => ?_)
              replace hw_27 : w_27 = up w 41 s (exF L x (w 41 o) (w 42 o)) := hw_27
              refine zA_aload_n dX2_layLast_104 rfl ?_
              refine zA_getR (n := 42) dX2_layLast_105 fX2_22 c39 rfl ?_
              refine zA_iload_n dX2_layLast_108 rfl ?_
              refine zA_iload dX2_layLast_109 rfl ?_
              refine zA_iastore dX2_layLast_111 (by first | assumption | exact hr _ _ | exact inR_mk (by omega) (by omega)) c42 (by first | assumption | omega) (by first | assumption | omega) (by decide) ?_
              refine zA_namew (fun w_28 hw_28 => ?_)
              refine zA_range (fun hr => ?_)
              replace hw_28 : w_28 = up w_27 42 s (exB L x (w 42 o)) := hw_28
              refine zA_vret dX2_layLast_112 rfl ?_
              exact ⟨rfl, rfl, Or.inl ⟨by omega, by rw [hw_28, hw_27]⟩⟩
      · skip
        refine zA_aload_n dX2_layLast_49 rfl ?_
        refine zA_getR (n := 42) dX2_layLast_50 fX2_22 c39 rfl ?_
        refine zA_iload_n dX2_layLast_53 rfl ?_
        refine zA_iaload dX2_layLast_54 c42 (by first | assumption | omega) (by first | assumption | omega) (by decide) ?_
        refine zA_iload_n dX2_layLast_55 rfl ?_
        refine zA_iadd dX2_layLast_56 ?_
        refine zA_goto (tgt := 61) dX2_layLast_57 (by decide) ?_
        refine zA_valI (exB L x (w 42 o)) (by unfold exB; first | (exfalso; omega) | rw [if_pos (by omega)] | rw [if_neg (by omega)]) ?_
        have heb : 0 ≤ exB L x (w 42 o) ∧ exB L x (w 42 o) ≤ L := by unfold exB; split <;> omega
        refine zA_istore (lo1 := [zR 39, zI s, zI o, zI x, zI L, zI 1, zI (exF L x (w 41 o) (w 42 o)), zI (exB L x (w 42 o))]) dX2_layLast_61 (by decide) rfl rfl ?_
        refine zA_iload dX2_layLast_63 rfl ?_
        refine zA_aload_n dX2_layLast_65 rfl ?_
        refine zA_getR (n := 41) dX2_layLast_66 fX2_19 c39 rfl ?_
        refine zA_iload_n dX2_layLast_69 rfl ?_
        refine zA_iaload dX2_layLast_70 c41 (by first | assumption | omega) (by first | assumption | omega) (by decide) ?_
        refine zA_icmp_lt (tgt := 96) dX2_layLast_71 (by decide) (by first | assumption | exact hr _ _ | exact inR_mk (by omega) (by omega)) (by first | assumption | exact hr _ _ | exact inR_mk (by omega) (by omega)) (fun c71 => ?_) (fun c71 => ?_)
        · skip
          refine zA_aload_n dX2_layLast_96 rfl ?_
          refine zA_getR (n := 41) dX2_layLast_97 fX2_19 c39 rfl ?_
          refine zA_iload_n dX2_layLast_100 rfl ?_
          refine zA_iload dX2_layLast_101 rfl ?_
          refine zA_iastore dX2_layLast_103 (by first | assumption | exact hr _ _ | exact inR_mk (by omega) (by omega)) c41 (by first | assumption | omega) (by first | assumption | omega) (by decide) ?_
          refine zA_namew (fun w_29 hw_29 => ?_)
          refine zA_range (fun hr => ?_)
          replace hw_29 : w_29 = up w 41 s (exF L x (w 41 o) (w 42 o)) := hw_29
          refine zA_aload_n dX2_layLast_104 rfl ?_
          refine zA_getR (n := 42) dX2_layLast_105 fX2_22 c39 rfl ?_
          refine zA_iload_n dX2_layLast_108 rfl ?_
          refine zA_iload dX2_layLast_109 rfl ?_
          refine zA_iastore dX2_layLast_111 (by first | assumption | exact hr _ _ | exact inR_mk (by omega) (by omega)) c42 (by first | assumption | omega) (by first | assumption | omega) (by decide) ?_
          refine zA_namew (fun w_30 hw_30 => ?_)
          refine zA_range (fun hr => ?_)
          replace hw_30 : w_30 = up w_29 42 s (exB L x (w 42 o)) := hw_30
          refine zA_vret dX2_layLast_112 rfl ?_
          exact ⟨rfl, rfl, Or.inl ⟨by omega, by rw [hw_30, hw_29]⟩⟩
        · skip
          refine zA_iload dX2_layLast_74 rfl ?_
          refine zA_aload_n dX2_layLast_76 rfl ?_
          refine zA_getR (n := 41) dX2_layLast_77 fX2_19 c39 rfl ?_
          refine zA_iload_n dX2_layLast_80 rfl ?_
          refine zA_iaload dX2_layLast_81 c41 (by first | assumption | omega) (by first | assumption | omega) (by decide) ?_
          refine zA_icmp_ne (tgt := 112) dX2_layLast_82 (by decide) (by first | assumption | exact hr _ _ | exact inR_mk (by omega) (by omega)) (by first | assumption | exact hr _ _ | exact inR_mk (by omega) (by omega)) (fun c82 => ?_) (fun c82 => ?_)
          · skip
            refine zA_vret dX2_layLast_112 rfl ?_
            exact ⟨rfl, rfl, Or.inr ⟨by omega, rfl⟩⟩
          · skip
            refine zA_iload dX2_layLast_85 rfl ?_
            refine zA_aload_n dX2_layLast_87 rfl ?_
            refine zA_getR (n := 42) dX2_layLast_88 fX2_22 c39 rfl ?_
            refine zA_iload_n dX2_layLast_91 rfl ?_
            refine zA_iaload dX2_layLast_92 c42 (by first | assumption | omega) (by first | assumption | omega) (by decide) ?_
            refine zA_icmp_ge (tgt := 112) dX2_layLast_93 (by decide) (by first | assumption | exact hr _ _ | exact inR_mk (by omega) (by omega)) (by first | assumption | exact hr _ _ | exact inR_mk (by omega) (by omega)) (fun c93 => ?_) (fun c93 => ?_)
            · skip
              refine zA_vret dX2_layLast_112 rfl ?_
              exact ⟨rfl, rfl, Or.inr ⟨by omega, rfl⟩⟩
            · skip
              refine zA_aload_n dX2_layLast_96 rfl ?_
              refine zA_getR (n := 41) dX2_layLast_97 fX2_19 c39 rfl ?_
              refine zA_iload_n dX2_layLast_100 rfl ?_
              refine zA_iload dX2_layLast_101 rfl ?_
              refine zA_iastore dX2_layLast_103 (by first | assumption | exact hr _ _ | exact inR_mk (by omega) (by omega)) c41 (by first | assumption | omega) (by first | assumption | omega) (by decide) ?_
              refine zA_namew (fun w_31 hw_31 => ?_)
              refine zA_range (fun hr => ?_)
              replace hw_31 : w_31 = up w 41 s (exF L x (w 41 o) (w 42 o)) := hw_31
              refine zA_aload_n dX2_layLast_104 rfl ?_
              refine zA_getR (n := 42) dX2_layLast_105 fX2_22 c39 rfl ?_
              refine zA_iload_n dX2_layLast_108 rfl ?_
              refine zA_iload dX2_layLast_109 rfl ?_
              refine zA_iastore dX2_layLast_111 (by first | assumption | exact hr _ _ | exact inR_mk (by omega) (by omega)) c42 (by first | assumption | omega) (by first | assumption | omega) (by decide) ?_
              refine zA_namew (fun w_32 hw_32 => ?_)
              refine zA_range (fun hr => ?_)
              replace hw_32 : w_32 = up w_31 42 s (exB L x (w 42 o)) := hw_32
              refine zA_vret dX2_layLast_112 rfl ?_
              exact ⟨rfl, rfl, Or.inl ⟨by omega, by rw [hw_32, hw_31]⟩⟩

theorem rope_step {D : Int → Int} {L s i fw lb fw2 lb2 : Int} {F B : Int → Int} (ht : tb s i = true) (i0 : 0 ≤ i) (hF : F i ≤ 9) (hB0 : 0 ≤ B i) (hx : 1 ≤ D i ∧ D i ≤ L)
    (h : ((∀ j : Int, 0 ≤ j → j < i → tb s j = false) ∧ fw = 11 ∧ lb = 0) ∨ ((∃ j : Int, (0 ≤ j ∧ j < i) ∧ tb s j = true ∧ fw = exF L (D j) (F j) (B j) ∧ lb = exB L (D j) (B j)) ∧ ∀ j : Int, 0 ≤ j → j < i → tb s j = true → fw < exF L (D j) (F j) (B j) ∨ (fw = exF L (D j) (F j) (B j) ∧ lb ≤ exB L (D j) (B j))))
    (k : ((exF L (D i) (F i) (B i) < fw ∨ (exF L (D i) (F i) (B i) = fw ∧ exB L (D i) (B i) < lb)) ∧ fw2 = exF L (D i) (F i) (B i) ∧ lb2 = exB L (D i) (B i)) ∨ (¬ (exF L (D i) (F i) (B i) < fw ∨ (exF L (D i) (F i) (B i) = fw ∧ exB L (D i) (B i) < lb)) ∧ fw2 = fw ∧ lb2 = lb)) :
    ((∀ j : Int, 0 ≤ j → j < i + 1 → tb s j = false) ∧ fw2 = 11 ∧ lb2 = 0) ∨ ((∃ j : Int, (0 ≤ j ∧ j < i + 1) ∧ tb s j = true ∧ fw2 = exF L (D j) (F j) (B j) ∧ lb2 = exB L (D j) (B j)) ∧ ∀ j : Int, 0 ≤ j → j < i + 1 → tb s j = true → fw2 < exF L (D j) (F j) (B j) ∨ (fw2 = exF L (D j) (F j) (B j) ∧ lb2 ≤ exB L (D j) (B j))) := by
  right
  have he : exF L (D i) (F i) (B i) ≤ 10 := by unfold exF; split <;> omega
  have hb : 1 ≤ exB L (D i) (B i) := by unfold exB; split <;> omega
  rcases k with ⟨k1, k2, k3⟩ | ⟨k1, k2, k3⟩
  · refine ⟨⟨i, by omega, ht, k2, k3⟩, fun j j0 j1 hj => ?_⟩
    by_cases e : j = i
    · subst e; omega
    · rcases h with ⟨h1, h2, h3⟩ | ⟨h1, h2⟩
      · rw [h1 j j0 (by omega)] at hj; cases hj
      · have := h2 j j0 (by omega) hj
        omega
  · rcases h with ⟨h1, h2, h3⟩ | ⟨⟨j, a, b, c, e⟩, h2⟩
    · exfalso; omega
    · refine ⟨⟨j, by omega, b, by omega, by omega⟩, fun x x0 x1 hx2 => ?_⟩
      by_cases e2 : x = i
      · subst e2; omega
      · have := h2 x x0 (by omega) hx2
        omega
theorem ldS_one {d : Int → Int} {n : Nat} {T r j0 : Int} {f : Int → Int} (hd : ∀ i : Int, 0 ≤ i → i < n → 0 ≤ d i) (a : 0 ≤ j0) (b : j0 < n) (h : ∀ j : Int, 0 ≤ j → j < n → tb T j = true → f j = r → j = j0) : ldS d n T f r ≤ d j0 := by
  have h2 := zsum_at (f := fun k : Nat => if tb T k = true ∧ f k = r then d k else 0) (g := fun _ => 0) n j0.toNat (by omega) (fun k hk hn => by
    show (if tb T k = true ∧ f k = r then d k else 0) = 0
    rw [if_neg (fun q => hn (by have := h k (by omega) (by omega) q.1 q.2; omega))])
  have h3 : zsum n (fun _ : Nat => (0 : Int)) = 0 := zsum0 n (fun _ _ => rfl)
  simp only [zcast a] at h2
  have h4 := hd j0 a b
  show zsum n (fun k : Nat => if tb T k = true ∧ f k = r then d k else 0) ≤ d j0
  split at h2 <;> omega
theorem okD_9 {d : Int → Int} {L : Int} {n : Nat} {T fw lb i : Int} (hd : ∀ i : Int, 0 ≤ i → i < n → 1 ≤ d i ∧ d i ≤ L) (i0 : 0 ≤ i) (i1 : i < n) (hi : tb T i = false) (h : okD d L n T fw lb) : fw ≤ n - 1 := by
  obtain ⟨-, -, -, -, lo⟩ := h
  refine (lo (n - 1) (fun j => if j = n - 1 then i else j) (by omega) ⟨fun j a b c => ?_, fun r a b => ?_⟩).1
  · show 0 ≤ (if j = n - 1 then i else j) ∧ (if j = n - 1 then i else j) < n - 1
    by_cases e : j = n - 1
    · rw [if_pos e]
      have : i ≠ n - 1 := fun q => by rw [e, ← q, hi] at c; cases c
      omega
    · rw [if_neg e]; omega
  · have hdn : ∀ i : Int, 0 ≤ i → i < n → 0 ≤ d i := fun i a b => by have := hd i a b; omega
    by_cases e : r = i
    · have := ldS_one (T := T) (r := r) (f := fun j => if j = n - 1 then i else j) hdn (show (0 : Int) ≤ n - 1 by omega) (by omega) (fun j a b c q => by
        refine Classical.byContradiction (fun hn => ?_)
        have q : (if j = n - 1 then i else j) = r := q
        rw [if_neg hn] at q
        rw [q, e, hi] at c; cases c)
      have := hd (n - 1) (by omega) (by omega)
      omega
    · have := ldS_one (T := T) (r := r) (f := fun j => if j = n - 1 then i else j) hdn a (by omega) (fun j a b c q => by
        have q : (if j = n - 1 then i else j) = r := q
        split at q <;> omega)
      have := hd r a (by omega)
      omega
set_option maxRecDepth 100000 in
set_option maxHeartbeats 4000000 in
theorem s_fewestRopes {l : Launch} {t dr tx : Nat} {w : zW} {L : Int} (hL : inR L) (n0 : 0 ≤ w 39 1) (n1 : w 39 1 ≤ 10) (hd : ∀ i : Int, 0 ≤ i → i < w 39 1 → 1 ≤ w 40 i ∧ w 40 i ≤ 9999) : zSp l mX2_fewestRopes false 2 0 0 [zR 39, zI L] (ZZ t dr tx) w (fun v' S' w' => S' = (ZZ t dr tx) ∧ frm [41, 42] w w' ∧ ((∃ i : Int, (0 ≤ i ∧ i < w 39 1) ∧ L < w 40 i) ∧ v' = some (zI (-1)) ∨ (∀ i : Int, 0 ≤ i → i < w 39 1 → w 40 i ≤ L) ∧ ∃ r, v' = some (zI r) ∧ isOpt (w 40) L (w 39 1).toNat r)) zNo := by
  refine zA_intro ⟨plainFor_of_name (by decide +kernel), Or.inl (by decide +kernel)⟩ rfl (Nat.le_of_ble_eq_true rfl) ?_
  have hM : 1 ≤ ((2 ^ (w 39 1).toNat : Nat) : Int) ∧ ((2 ^ (w 39 1).toNat : Nat) : Int) ≤ 1024 := by
    have h1 : 0 < 2 ^ (w 39 1).toNat := Nat.pow_pos (by decide)
    have h2 : 2 ^ (w 39 1).toNat ≤ 2 ^ 10 := Nat.pow_le_pow_right (by decide) (by omega)
    omega
  refine zA_range (fun hr => ?_)
  show zA l mX2_fewestRopes false 2 0 0 (fun v' S' w' => S' = (ZZ t dr tx) ∧ frm [41, 42] w w' ∧ ((∃ i : Int, (0 ≤ i ∧ i < w 39 1) ∧ L < w 40 i) ∧ v' = some (zI (-1)) ∨ (∀ i : Int, 0 ≤ i → i < w 39 1 → w 40 i ≤ L) ∧ ∃ r, v' = some (zI r) ∧ isOpt (w 40) L (w 39 1).toNat r)) zNo 0 [zR 39, zI L, .null, .null] [] (ZZ t dr tx) w
  refine zA_iconst dX2_fewestRopes_0 ?_
  refine zA_istore_n (lo1 := [zR 39, zI L, zI 0, .null]) dX2_fewestRopes_1 (by decide) rfl rfl ?_
  have L2 : ∀ (z2 : Nat) (i : Int) (i0 : 0 ≤ i) (i1 : i ≤ w 39 1) (hle : ∀ j : Int, 0 ≤ j → j < i → w 40 j ≤ L) (zm : (w 39 1 - i).toNat < z2), zA l mX2_fewestRopes false 2 0 0 (fun v' S' w' => S' = (ZZ t dr tx) ∧ frm [41, 42] w w' ∧ ((∃ i : Int, (0 ≤ i ∧ i < w 39 1) ∧ L < w 40 i) ∧ v' = some (zI (-1)) ∨ (∀ i : Int, 0 ≤ i → i < w 39 1 → w 40 i ≤ L) ∧ ∃ r, v' = some (zI r) ∧ isOpt (w 40) L (w 39 1).toNat r)) zNo 2 [zR 39, zI L, zI i, .null] [] (ZZ t dr tx) w := by
    intro z2
    induction z2 with
    | zero => intro i i0 i1 hle zm; exact absurd zm (Nat.not_lt_zero _)
    | succ z2 ih2 =>
      intro i i0 i1 hle zm
      refine zA_iload_n dX2_fewestRopes_2 rfl ?_
      refine zA_aload_n dX2_fewestRopes_3 rfl ?_
      refine zA_getI dX2_fewestRopes_4 fX2_15 c39 rfl ?_
      refine zA_valI (w 39 1) rfl ?_
      refine zA_icmp_ge (tgt := 28) dX2_fewestRopes_7 (by decide) (by first | assumption | exact hr _ _ | exact inR_mk (by omega) (by omega)) (by first | assumption | exact hr _ _ | exact inR_mk (by omega) (by omega)) (fun c7 => ?_) (fun c7 => ?_)
      · skip
        refine zA_aload_n dX2_fewestRopes_28 rfl ?_
        refine zA_getR (n := 41) dX2_fewestRopes_29 fX2_19 c39 rfl ?_
        refine zA_iconst dX2_fewestRopes_32 ?_
        refine zA_iconst dX2_fewestRopes_33 ?_
        refine zA_iastore dX2_fewestRopes_34 ⟨by decide, by decide⟩ c41 (by first | assumption | omega) (by first | assumption | omega) (by decide) ?_
        refine zA_namew (fun w_1 hw_1 => ?_)
        refine zA_range (fun hr => ?_)
        replace hw_1 : w_1 = up w 41 0 0 := hw_1
        refine zA_aload_n dX2_fewestRopes_35 rfl ?_
        refine zA_getR (n := 42) dX2_fewestRopes_36 fX2_22 c39 rfl ?_
        refine zA_iconst dX2_fewestRopes_39 ?_
        refine zA_iload_n dX2_fewestRopes_40 rfl ?_
        refine zA_iastore dX2_fewestRopes_41 (by first | assumption | exact hr _ _ | exact inR_mk (by omega) (by omega)) c42 (by first | assumption | omega) (by first | assumption | omega) (by decide) ?_
        refine zA_namew (fun w_2 hw_2 => ?_)
        refine zA_range (fun hr => ?_)
        replace hw_2 : w_2 = up w_1 42 0 L := hw_2
        refine zA_iconst dX2_fewestRopes_42 ?_
        refine zA_istore_n (lo1 := [zR 39, zI L, zI 1, .null]) dX2_fewestRopes_43 (by decide) rfl rfl ?_
        have L44 : ∀ (z44 : Nat) (s : Int) (w1 : zW) (s0 : 1 ≤ s) (s1 : s ≤ ((2 ^ (w 39 1).toNat : Nat) : Int)) (hf : frm [41, 42] w w1) (h00 : w1 41 0 = 0) (hS : 1 ≤ w 39 1 → ∀ S : Int, 0 ≤ S → S < s → okD (w 40) L (w 39 1).toNat S (w1 41 S) (w1 42 S)) (zm : (((2 ^ (w 39 1).toNat : Nat) : Int) - s).toNat < z44), zA l mX2_fewestRopes false 2 0 0 (fun v' S' w' => S' = (ZZ t dr tx) ∧ frm [41, 42] w w' ∧ ((∃ i : Int, (0 ≤ i ∧ i < w 39 1) ∧ L < w 40 i) ∧ v' = some (zI (-1)) ∨ (∀ i : Int, 0 ≤ i → i < w 39 1 → w 40 i ≤ L) ∧ ∃ r, v' = some (zI r) ∧ isOpt (w 40) L (w 39 1).toNat r)) zNo 44 [zR 39, zI L, zI s, .null] [] (ZZ t dr tx) w1 := by
          intro z44
          induction z44 with
          | zero => intro s w1 s0 s1 hf h00 hS zm; exact absurd zm (Nat.not_lt_zero _)
          | succ z44 ih44 =>
            intro s w1 s0 s1 hf h00 hS zm
            refine zA_range (fun hr => ?_)
            have e39 : w1 39 1 = w 39 1 := hf 39 1 (by decide)
            have e40r : w1 40 = w 40 := funext fun i => hf 40 i (by decide)
            refine zA_iload_n dX2_fewestRopes_44 rfl ?_
            refine zA_iconst dX2_fewestRopes_45 ?_
            refine zA_aload_n dX2_fewestRopes_46 rfl ?_
            refine zA_getI dX2_fewestRopes_47 fX2_15 c39 rfl ?_
            refine zA_valI (w1 39 1) rfl ?_
            refine zA_ishl dX2_fewestRopes_50 ?_
            refine zA_valI ((2 ^ (w 39 1).toNat : Nat) : Int) (by rw [e39, iShl_1 (by omega) (by omega)]) ?_
            refine zA_icmp_ge (tgt := 118) dX2_fewestRopes_51 (by decide) (by first | assumption | exact hr _ _ | exact inR_mk (by omega) (by omega)) (by first | assumption | exact hr _ _ | exact inR_mk (by omega) (by omega)) (fun c51 => ?_) (fun c51 => ?_)
            · skip
              refine zA_aload_n dX2_fewestRopes_118 rfl ?_
              refine zA_getR (n := 41) dX2_fewestRopes_119 fX2_19 c39 rfl ?_
              refine zA_iconst dX2_fewestRopes_122 ?_
              refine zA_aload_n dX2_fewestRopes_123 rfl ?_
              refine zA_getI dX2_fewestRopes_124 fX2_15 c39 rfl ?_
              refine zA_valI (w1 39 1) rfl ?_
              refine zA_ishl dX2_fewestRopes_127 ?_
              refine zA_iconst dX2_fewestRopes_128 ?_
              refine zA_isub dX2_fewestRopes_129 ?_
              refine zA_valI (((2 ^ (w 39 1).toNat : Nat) : Int) - 1) (by rw [e39, iShl_1 (by omega) (by omega)]) ?_
              refine zA_iaload dX2_fewestRopes_130 c41 (by first | assumption | omega) (by first | assumption | omega) (by decide) ?_
              refine zA_iret dX2_fewestRopes_131 rfl ?_
              refine ⟨rfl, hf, Or.inr ⟨fun j a b => hle j a (by omega), _, rfl, ?_⟩⟩
              by_cases hn : 1 ≤ w 39 1
              · have h := hS hn (((2 ^ (w 39 1).toNat : Nat) : Int) - 1) (by omega) (by omega)
                exact okD_all (S := ((2 ^ (w 39 1).toNat : Nat) : Int) - 1) (fun j a b => by rw [tb_M1 j n0 a]; exact decide_eq_true (by omega)) h
              · have e : w 39 1 = 0 := by omega
                have e2 : (w 39 1).toNat = 0 := by omega
                rw [e2, show (((2 ^ 0 : Nat) : Int) - 1) = 0 by decide, h00]
                exact ⟨Int.le_refl _, ⟨fun _ => 0, fun i a b => by omega, fun r a b => by omega⟩, fun b f hb _ => hb⟩
            · skip
              refine zA_aload_n dX2_fewestRopes_54 rfl ?_
              refine zA_getR (n := 41) dX2_fewestRopes_55 fX2_19 c39 rfl ?_
              refine zA_iload_n dX2_fewestRopes_58 rfl ?_
              refine zA_bipush dX2_fewestRopes_59 rfl ?_
              refine zA_iastore dX2_fewestRopes_61 ⟨by decide, by decide⟩ c41 (by first | assumption | omega) (by first | assumption | omega) (by decide) ?_
              refine zA_namew (fun w_3 hw_3 => ?_)
              refine zA_range (fun hr => ?_)
              replace hw_3 : w_3 = up w1 41 s 11 := hw_3
              refine zA_aload_n dX2_fewestRopes_62 rfl ?_
              refine zA_getR (n := 42) dX2_fewestRopes_63 fX2_22 c39 rfl ?_
              refine zA_iload_n dX2_fewestRopes_66 rfl ?_
              refine zA_iconst dX2_fewestRopes_67 ?_
              refine zA_iastore dX2_fewestRopes_68 ⟨by decide, by decide⟩ c42 (by first | assumption | omega) (by first | assumption | omega) (by decide) ?_
              refine zA_namew (fun w_4 hw_4 => ?_)
              refine zA_range (fun hr => ?_)
              replace hw_4 : w_4 = up w_3 42 s 0 := hw_4
              refine zA_iconst dX2_fewestRopes_69 ?_
              refine zA_istore_n (lo1 := [zR 39, zI L, zI s, zI 0]) dX2_fewestRopes_70 (by decide) rfl rfl ?_
              have L71 : ∀ (z71 : Nat) (i : Int) (w2 : zW) (i0 : 0 ≤ i) (i1 : i ≤ w 39 1) (hf2 : frm [41, 42] w w2) (ho : ∀ S : Int, S ≠ s → w2 41 S = w1 41 S ∧ w2 42 S = w1 42 S) (hx : ((∀ j : Int, 0 ≤ j → j < i → tb s j = false) ∧ w2 41 s = 11 ∧ w2 42 s = 0) ∨ ((∃ j : Int, (0 ≤ j ∧ j < i) ∧ tb s j = true ∧ w2 41 s = (exF L (w 40 j) (w1 41 (clr s j)) (w1 42 (clr s j))) ∧ w2 42 s = (exB L (w 40 j) (w1 42 (clr s j)))) ∧ ∀ j : Int, 0 ≤ j → j < i → tb s j = true → w2 41 s < (exF L (w 40 j) (w1 41 (clr s j)) (w1 42 (clr s j))) ∨ (w2 41 s = (exF L (w 40 j) (w1 41 (clr s j)) (w1 42 (clr s j))) ∧ w2 42 s ≤ (exB L (w 40 j) (w1 42 (clr s j)))))) (zm : (w 39 1 - i).toNat < z71), zA l mX2_fewestRopes false 2 0 0 (fun v' S' w' => S' = (ZZ t dr tx) ∧ frm [41, 42] w w' ∧ ((∃ i : Int, (0 ≤ i ∧ i < w 39 1) ∧ L < w 40 i) ∧ v' = some (zI (-1)) ∨ (∀ i : Int, 0 ≤ i → i < w 39 1 → w 40 i ≤ L) ∧ ∃ r, v' = some (zI r) ∧ isOpt (w 40) L (w 39 1).toNat r)) zNo 71 [zR 39, zI L, zI s, zI i] [] (ZZ t dr tx) w2 := by
                intro z71
                induction z71 with
                | zero => intro i w2 i0 i1 hf2 ho hx zm; exact absurd zm (Nat.not_lt_zero _)
                | succ z71 ih71 =>
                  intro i w2 i0 i1 hf2 ho hx zm
                  refine zA_range (fun hr => ?_)
                  have e392 : w2 39 1 = w 39 1 := hf2 39 1 (by decide)
                  refine zA_iload_n dX2_fewestRopes_71 rfl ?_
                  refine zA_aload_n dX2_fewestRopes_72 rfl ?_
                  refine zA_getI dX2_fewestRopes_73 fX2_15 c39 rfl ?_
                  refine zA_valI (w2 39 1) rfl ?_
                  refine zA_icmp_ge (tgt := 112) dX2_fewestRopes_76 (by decide) (by first | assumption | exact hr _ _ | exact inR_mk (by omega) (by omega)) (by first | assumption | exact hr _ _ | exact inR_mk (by omega) (by omega)) (fun c76 => ?_) (fun c76 => ?_)
                  · skip
                    have hfin : 1 ≤ w 39 1 → okD (w 40) L (w 39 1).toNat s (w2 41 s) (w2 42 s) := fun hn => by
                      have hi : i = w 39 1 := by omega
                      rw [hi] at hx
                      have hdL : ∀ j : Int, 0 ≤ j → j < (w 39 1).toNat → 1 ≤ w 40 j ∧ w 40 j ≤ L := fun j a b => by have := hd j a (by omega); have := hle j a (by omega); omega
                      have hL0 := hdL 0 (by omega) (by omega)
                      rcases hx with ⟨h1, -, -⟩ | ⟨⟨j, a, b, c, e⟩, h2⟩
                      · exfalso
                        have : s = 0 := tb_ext (by omega) (by decide) (fun j j0 => by
                          rw [tb_0]
                          by_cases hj : j < w 39 1
                          · exact h1 j j0 hj
                          · exact tb_Mhi (m := w 39 1) (by omega) (by omega) (by omega))
                        omega
                      · refine okD_step (F := fun j => w1 41 (clr s j)) (B := fun j => w1 42 (clr s j)) (by omega) hdL (clr s) (fun x a b hb => ?_) ⟨j, by omega, b, c, e⟩ (fun x a b hb => h2 x a (by omega) hb)
                        have hcl := clr_lt (S := s) (i := x) (by omega) (by omega) a (by omega) hb
                        exact ⟨hcl.2.1, hcl.2.2, hS hn (clr s x) hcl.1.1 hcl.1.2⟩
                    refine zA_iinc (lo1 := [zR 39, zI L, zI (s + 1), zI i]) dX2_fewestRopes_112 rfl (by decide) rfl rfl ?_
                    refine zA_goto (tgt := 44) dX2_fewestRopes_115 (by decide) ?_
                    refine zA_drop 3 (lo1 := [zR 39, zI L, zI (s + 1), .null]) rfl ?_
                    exact ih44 (s + 1) w2 (by omega) (by omega) hf2 (by rw [(ho 0 (by omega)).1]; exact h00) (fun hn S a b => by
                                by_cases e : S = s
                                · subst e; exact hfin hn
                                · rw [(ho S e).1, (ho S e).2]; exact hS hn S a (by omega)) (by clear hx hfin; omega)
                  · skip
                    refine zA_iload_n dX2_fewestRopes_79 rfl ?_
                    refine zA_iload_n dX2_fewestRopes_80 rfl ?_
                    refine zA_ishr dX2_fewestRopes_81 ?_
                    refine zA_iconst dX2_fewestRopes_82 ?_
                    refine zA_iand dX2_fewestRopes_83 ?_
                    refine zA_valI (if tb s i = true then 1 else 0) (tb_get (by omega) (by omega) i0 (by omega)) ?_
                    refine zA_if_eq (tgt := 106) dX2_fewestRopes_84 (by decide) (inR_ite _) (fun c84 => ?_) (fun c84 => ?_)
                    · skip
                      replace c84 := zite_eq c84
                      refine zA_iinc (lo1 := [zR 39, zI L, zI s, zI (i + 1)]) dX2_fewestRopes_106 rfl (by decide) rfl rfl ?_
                      refine zA_goto (tgt := 71) dX2_fewestRopes_109 (by decide) ?_
                      exact ih71 (i + 1) _ (by omega) (by omega) hf2 ho (by
                                  have hc : tb s i = false := by simpa using c84
                                  rcases hx with ⟨h1, h2, h3⟩ | ⟨⟨j, a, b, c, e⟩, h2⟩
                                  · exact Or.inl ⟨fun j a b => (by
                                      by_cases e : j = i
                                      · rw [e]; exact hc
                                      · exact h1 j a (by omega)), h2, h3⟩
                                  · exact Or.inr ⟨⟨j, by omega, b, c, e⟩, fun x a b hb => (by
                                      by_cases e : x = i
                                      · rw [e, hc] at hb; cases hb
                                      · exact h2 x a (by omega) hb)⟩) (by omega)
                    · skip
                      replace c84 := zite_ne c84
                      have hcl := clr_lt (S := s) (i := i) (by omega) (by omega) i0 (by omega) c84
                      have e40 : w2 40 i = w 40 i := hf2 40 i (by decide)
                      have e41 := (ho (clr s i) (by omega)).1
                      have e42 := (ho (clr s i) (by omega)).2
                      have hokT := hS (by omega) (clr s i) hcl.1.1 hcl.1.2
                      have hdL : ∀ j : Int, 0 ≤ j → j < (w 39 1).toNat → 1 ≤ w 40 j ∧ w 40 j ≤ L := fun j a b => by have := hd j a (by omega); have := hle j a (by omega); omega
                      have hok9 := okD_9 hdL i0 (show i < (w 39 1).toNat by omega) hcl.2.1 hokT
                      obtain ⟨⟨g1, g2⟩, ⟨g3, g4⟩, -⟩ := id hokT
                      have hdi := hd i i0 (by omega)
                      have hli := hle i i0 (by omega)
                      refine zA_aload_n dX2_fewestRopes_87 rfl ?_
                      refine zA_iload_n dX2_fewestRopes_88 rfl ?_
                      refine zA_iload_n dX2_fewestRopes_89 rfl ?_
                      refine zA_iconst dX2_fewestRopes_90 ?_
                      refine zA_iload_n dX2_fewestRopes_91 rfl ?_
                      refine zA_ishl dX2_fewestRopes_92 ?_
                      refine zA_iconst dX2_fewestRopes_93 ?_
                      refine zA_ixor dX2_fewestRopes_94 ?_
                      refine zA_iand dX2_fewestRopes_95 ?_
                      refine zA_aload_n dX2_fewestRopes_96 rfl ?_
                      refine zA_getR (n := 40) dX2_fewestRopes_97 fX2_11 c39 rfl ?_
                      refine zA_iload_n dX2_fewestRopes_100 rfl ?_
                      refine zA_iaload dX2_fewestRopes_101 c40 (by first | assumption | omega) (by first | assumption | omega) (by decide) ?_
                      refine zA_iload_n dX2_fewestRopes_102 rfl ?_
                      refine zA_cV (st := []) dX2_fewestRopes_103 vX2_layLast kX2_28 (s_layLast (w := w2) (s := s) (o := clr s i) (x := w2 40 i) (L := L) (by omega) (by omega) hcl.1.1 (by omega) (by omega) (by omega) hL.2 (by omega) (by omega) (by omega) (by omega)) (by decide) c39 rfl rfl (Nat.le_of_ble_eq_true rfl) rfl (fun q_5_v q_5_S q_5_w q_5 => ?_)
                      obtain ⟨rfl, rfl, hk⟩ := q_5
                      rw [e40, e41, e42] at hk
                      have hk2 : frm [41, 42] w2 q_5_w ∧ (∀ S : Int, S ≠ s → q_5_w 41 S = w2 41 S ∧ q_5_w 42 S = w2 42 S) ∧ ((((exF L (w 40 i) (w1 41 (clr s i)) (w1 42 (clr s i))) < w2 41 s ∨ ((exF L (w 40 i) (w1 41 (clr s i)) (w1 42 (clr s i))) = w2 41 s ∧ (exB L (w 40 i) (w1 42 (clr s i))) < w2 42 s)) ∧ q_5_w 41 s = (exF L (w 40 i) (w1 41 (clr s i)) (w1 42 (clr s i))) ∧ q_5_w 42 s = (exB L (w 40 i) (w1 42 (clr s i)))) ∨ (¬ ((exF L (w 40 i) (w1 41 (clr s i)) (w1 42 (clr s i))) < w2 41 s ∨ ((exF L (w 40 i) (w1 41 (clr s i)) (w1 42 (clr s i))) = w2 41 s ∧ (exB L (w 40 i) (w1 42 (clr s i))) < w2 42 s)) ∧ q_5_w 41 s = w2 41 s ∧ q_5_w 42 s = w2 42 s)) := by
                        rcases hk with ⟨k1, k2⟩ | ⟨k1, k2⟩
                        · refine ⟨by rw [k2]; exact frm_up (frm_up frm_rfl (by decide)) (by decide), fun S hS => ?_, Or.inl ⟨k1, ?_, ?_⟩⟩
                          · rw [k2, up_cell _ _ _ _ (by decide : (41 : Nat) ≠ 42), up_idx _ _ _ _ hS, up_idx _ _ _ _ hS, up_cell _ _ _ _ (by decide : (42 : Nat) ≠ 41)]; exact ⟨rfl, rfl⟩
                          · rw [k2, up_cell _ _ _ _ (by decide : (41 : Nat) ≠ 42), up_same]
                          · rw [k2, up_same]
                        · rw [k2]
                          exact ⟨frm_rfl, fun S hS => ⟨rfl, rfl⟩, Or.inr ⟨k1, rfl, rfl⟩⟩
                      obtain ⟨hk3, hk4, hk5⟩ := hk2
                      refine zA_range (fun hr => ?_)
                      show zA l mX2_fewestRopes false 2 0 0 (fun v' S' w' => S' = (ZZ t dr tx) ∧ frm [41, 42] w w' ∧ ((∃ i : Int, (0 ≤ i ∧ i < w 39 1) ∧ L < w 40 i) ∧ v' = some (zI (-1)) ∨ (∀ i : Int, 0 ≤ i → i < w 39 1 → w 40 i ≤ L) ∧ ∃ r, v' = some (zI r) ∧ isOpt (w 40) L (w 39 1).toNat r)) zNo 106 [zR 39, zI L, zI s, zI i] [] (ZZ t dr tx) q_5_w
                      refine zA_iinc (lo1 := [zR 39, zI L, zI s, zI (i + 1)]) dX2_fewestRopes_106 rfl (by decide) rfl rfl ?_
                      refine zA_goto (tgt := 71) dX2_fewestRopes_109 (by decide) ?_
                      exact ih71 (i + 1) _ (by omega) (by omega) (frm_tr hf2 hk3 (fun _ h => h) (fun _ h => h)) (fun S hS => by rw [(hk4 S hS).1, (hk4 S hS).2]; exact ho S hS) (rope_step (D := w 40) (F := fun j => w1 41 (clr s j)) (B := fun j => w1 42 (clr s j)) c84 i0 (by show w1 41 (clr s i) ≤ 9; omega) (by show 0 ≤ w1 42 (clr s i); omega) (by have := hd i i0 (by omega); omega) hx hk5) (by omega)
              exact L71 _ 0 _ (by omega) (by omega) (by rw [hw_4, hw_3]; exact frm_up (frm_up hf (by decide)) (by decide)) (fun S hS => by rw [hw_4, up_cell _ _ _ _ (by decide : (41 : Nat) ≠ 42), hw_3, up_idx _ _ _ _ hS, up_idx _ _ _ _ hS, up_cell _ _ _ _ (by decide : (42 : Nat) ≠ 41)]; exact ⟨rfl, rfl⟩) (Or.inl ⟨fun j a b => by omega, by rw [hw_4, up_cell _ _ _ _ (by decide), hw_3, up_same], by rw [hw_4, up_same]⟩) (Nat.lt_succ_self _)
        exact L44 _ 1 _ (by omega) (by omega) (by rw [hw_2, hw_1]; exact frm_up (frm_up frm_rfl (by decide)) (by decide)) (by rw [hw_2, up_cell _ _ _ _ (by decide), hw_1, up_same]) (fun hn S a b => by
                have e : S = 0 := by omega
                subst e
                rw [hw_2, up_same, up_cell _ _ _ _ (by decide), hw_1, up_same]
                exact okD_0 (by have := hd 0 (by omega) (by omega); have := hle 0 (by omega) (by omega); omega)) (Nat.lt_succ_self _)
      · skip
        refine zA_aload_n dX2_fewestRopes_10 rfl ?_
        refine zA_getR (n := 40) dX2_fewestRopes_11 fX2_11 c39 rfl ?_
        refine zA_iload_n dX2_fewestRopes_14 rfl ?_
        refine zA_iaload dX2_fewestRopes_15 c40 (by first | assumption | omega) (by first | assumption | omega) (by decide) ?_
        refine zA_iload_n dX2_fewestRopes_16 rfl ?_
        refine zA_icmp_le (tgt := 22) dX2_fewestRopes_17 (by decide) (by first | assumption | exact hr _ _ | exact inR_mk (by omega) (by omega)) (by first | assumption | exact hr _ _ | exact inR_mk (by omega) (by omega)) (fun c17 => ?_) (fun c17 => ?_)
        · skip
          refine zA_iinc (lo1 := [zR 39, zI L, zI (i + 1), .null]) dX2_fewestRopes_22 rfl (by decide) rfl rfl ?_
          refine zA_goto (tgt := 2) dX2_fewestRopes_25 (by decide) ?_
          exact ih2 (i + 1) (by omega) (by omega) (fun j a b => by
                      by_cases e : j = i
                      · rw [e]; omega
                      · exact hle j a (by omega)) (by omega)
        · skip
          refine zA_iconst dX2_fewestRopes_20 ?_
          refine zA_iret dX2_fewestRopes_21 rfl ?_
          exact ⟨rfl, frm_rfl, Or.inl ⟨⟨i, ⟨i0, by omega⟩, by omega⟩, rfl⟩⟩
  exact L2 _ 0 (by omega) (by omega) (fun j a b => by omega) (Nat.lt_succ_self _)

set_option maxRecDepth 100000 in
set_option maxHeartbeats 4000000 in
theorem s_ropes {l : Launch} {t dr tx : Nat} {w : zW} {L : Int} (hL : inR L) (n0 : 0 ≤ w 39 1) (n1 : w 39 1 ≤ 10) (hd : ∀ i : Int, 0 ≤ i → i < w 39 1 → 1 ≤ w 40 i ∧ w 40 i ≤ 9999) : zSp l mX11_ropes false 3 0 0 [zR 0, zI L] (ZZ t dr tx) w (fun v' S' w' => S' = (ZZ t dr tx) ∧ (∀ c i, c ≠ 41 → c ≠ 42 → (c ≠ 39 ∨ i ≠ 1) → w' c i = w c i) ∧ w' 39 1 = 0 ∧ ((∃ i : Int, (0 ≤ i ∧ i < w 39 1) ∧ L < w 40 i) ∧ v' = some (zI (-1)) ∨ (∀ i : Int, 0 ≤ i → i < w 39 1 → w 40 i ≤ L) ∧ ∃ r, v' = some (zI r) ∧ isOpt (w 40) L (w 39 1).toNat r)) zNo := by
  refine zA_intro ⟨plainFor_of_name (by decide +kernel), Or.inl (by decide +kernel)⟩ rfl (Nat.le_of_ble_eq_true rfl) ?_
  refine zA_range (fun hr => ?_)
  show zA l mX11_ropes false 3 0 0 (fun v' S' w' => S' = (ZZ t dr tx) ∧ (∀ c i, c ≠ 41 → c ≠ 42 → (c ≠ 39 ∨ i ≠ 1) → w' c i = w c i) ∧ w' 39 1 = 0 ∧ ((∃ i : Int, (0 ≤ i ∧ i < w 39 1) ∧ L < w 40 i) ∧ v' = some (zI (-1)) ∨ (∀ i : Int, 0 ≤ i → i < w 39 1 → w 40 i ≤ L) ∧ ∃ r, v' = some (zI r) ∧ isOpt (w 40) L (w 39 1).toNat r)) zNo 0 [zR 0, zI L, .null] [] (ZZ t dr tx) w
  refine zA_aload_n dX11_ropes_0 rfl ?_
  refine zA_getR (n := 39) dX11_ropes_1 fX11_64 c0 rfl ?_
  refine zA_iload_n dX11_ropes_4 rfl ?_
  refine zA_cV (st := []) dX11_ropes_5 vX2_fewestRopes kX11_337 (s_fewestRopes (w := w) (L := L) hL n0 n1 hd) (by decide) c39 rfl rfl (Nat.le_of_ble_eq_true rfl) rfl (fun q_1_v q_1_S q_1_w q_1 => ?_)
  obtain ⟨rfl, hfr, hres⟩ := q_1
  obtain ⟨zv, hzv, hres2⟩ : ∃ zv, q_1_v = some (zI zv) ∧ ((∃ i : Int, (0 ≤ i ∧ i < w 39 1) ∧ L < w 40 i) ∧ zv = -1 ∨ (∀ i : Int, 0 ≤ i → i < w 39 1 → w 40 i ≤ L) ∧ isOpt (w 40) L (w 39 1).toNat zv) := by
    rcases hres with ⟨a, b⟩ | ⟨a, r, b, c⟩
    · exact ⟨-1, b, Or.inl ⟨a, rfl⟩⟩
    · exact ⟨r, b, Or.inr ⟨a, c⟩⟩
  subst hzv
  refine zA_range (fun hr => ?_)
  show zA l mX11_ropes false 3 0 0 (fun v' S' w' => S' = (ZZ t dr tx) ∧ (∀ c i, c ≠ 41 → c ≠ 42 → (c ≠ 39 ∨ i ≠ 1) → w' c i = w c i) ∧ w' 39 1 = 0 ∧ ((∃ i : Int, (0 ≤ i ∧ i < w 39 1) ∧ L < w 40 i) ∧ v' = some (zI (-1)) ∨ (∀ i : Int, 0 ≤ i → i < w 39 1 → w 40 i ≤ L) ∧ ∃ r, v' = some (zI r) ∧ isOpt (w 40) L (w 39 1).toNat r)) zNo 8 [zR 0, zI L, .null] [zI zv] (ZZ t dr tx) q_1_w
  refine zA_istore_n (lo1 := [zR 0, zI L, zI zv]) dX11_ropes_8 (by decide) rfl rfl ?_
  refine zA_aload_n dX11_ropes_9 rfl ?_
  refine zA_getR (n := 39) dX11_ropes_10 fX11_64 c0 rfl ?_
  refine zA_iconst dX11_ropes_13 ?_
  refine zA_putI dX11_ropes_14 fX11_151 c39 rfl ⟨by decide, by decide⟩ ⟨rfl, rfl⟩ ?_
  refine zA_namew (fun w_2 hw_2 => ?_)
  refine zA_range (fun hr => ?_)
  replace hw_2 : w_2 = up q_1_w 39 1 0 := hw_2
  refine zA_iload_n dX11_ropes_17 rfl ?_
  refine zA_iret dX11_ropes_18 rfl ?_
  refine ⟨rfl, fun c i a b e => ?_, by rw [hw_2, up_same], ?_⟩
  · by_cases hc : c = 39
    · subst hc; rw [hw_2, up_idx _ _ _ _ (by omega)]; exact hfr 39 i (by decide)
    · rw [hw_2, up_cell _ _ _ _ hc]; exact hfr c i (by simp; omega)
  · rcases hres2 with ⟨a, b⟩ | ⟨a, b⟩
    · exact Or.inl ⟨a, by rw [b]⟩
    · exact Or.inr ⟨a, zv, rfl, b⟩

