/-! fewest ropes, in the class -/
set_option maxRecDepth 100000 in
set_option maxHeartbeats 4000000 in
theorem s_layLast {l : Launch} {t dr tx : Nat} {w : zW} {s o x L : Int} (s0 : 0 ≤ s) (s1 : s < 1024) (o0 : 0 ≤ o) (o1 : o < 1024) (x0 : 1 ≤ x) (x1 : x ≤ L) (hL : L < 2147483648) (b0 : 0 ≤ w 42 o) (b1 : w 42 o ≤ L) (f0 : 0 ≤ w 41 o) (f1 : w 41 o ≤ 10) : zSp l mX2_layLast false 1 0 0 [zR 39, zI s, zI o, zI x, zI L] (ZZ t dr tx) w (fun v' S' w' => v' = none ∧ S' = (ZZ t dr tx) ∧ ((exF L x (w 41 o) (w 42 o) < w 41 s ∨ (exF L x (w 41 o) (w 42 o) = w 41 s ∧ exB L x (w 42 o) < w 42 s)) ∧ w' = up (up w 41 s (exF L x (w 41 o) (w 42 o))) 42 s (exB L x (w 42 o)) ∨ ¬ (exF L x (w 41 o) (w 42 o) < w 41 s ∨ (exF L x (w 41 o) (w 42 o) = w 41 s ∧ exB L x (w 42 o) < w 42 s)) ∧ w' = w)) zNo := by
  refine zA_intro ⟨plainFor_of_name (by decide +kernel), Or.inl (by decide +kernel)⟩ rfl (Nat.le_of_ble_eq_true rfl) ?_
  refine zA_range (fun hr => ?_)
  show zA l mX2_layLast false 1 0 0 (fun v' S' w' => v' = none ∧ S' = (ZZ t dr tx) ∧ ((exF L x (w 41 o) (w 42 o) < w 41 s ∨ (exF L x (w 41 o) (w 42 o) = w 41 s ∧ exB L x (w 42 o) < w 42 s)) ∧ w' = up (up w 41 s (exF L x (w 41 o) (w 42 o))) 42 s (exB L x (w 42 o)) ∨ ¬ (exF L x (w 41 o) (w 42 o) < w 41 s ∨ (exF L x (w 41 o) (w 42 o) = w 41 s ∧ exB L x (w 42 o) < w 42 s)) ∧ w' = w)) zNo 0 [zR 39, zI s, zI o, zI x, zI L, .null, .null, .null] [] (ZZ t dr tx) w
  refine zA_aload_n dX2_layLast_0 rfl ?_
  refine zA_getR (n := 42) dX2_layLast_1 fX2_22 c39 rfl ?_
  refine zA_iload_n dX2_layLast_4 rfl ?_
  refine zA_iaload dX2_layLast_5 c42 (by first | assumption | omega) (by first | assumption | omega) (by decide) ?_
  refine zA_iload dX2_layLast_6 rfl ?_
  refine zA_iload_n dX2_layLast_8 rfl ?_
  refine zA_isub dX2_layLast_9 ?_
  refine zA_icmp_gt (tgt := 17) dX2_layLast_10 (by decide) (by first | assumption | exact hr _ _ | exact inR_mk (by omega) (by omega)) (by first | assumption | exact hr _ _ | exact inR_mk (by omega) (by omega)) (fun c10 => ?_) (fun c10 => ?_)
  · skip
    refine zA_iconst dX2_layLast_17 ?_
    refine zA_istore (lo1 := [zR 39, zI s, zI o, zI x, zI L, zI 0, .null, .null]) dX2_layLast_18 (by decide) rfl rfl ?_
    refine zA_iload dX2_layLast_20 rfl ?_
    refine zA_if_eq (tgt := 34) dX2_layLast_22 (by decide) ⟨by decide, by decide⟩ (fun c22 => ?_) (fun c22 => ?_)
    · skip
      refine zA_aload_n dX2_layLast_34 rfl ?_
      refine zA_getR (n := 41) dX2_layLast_35 fX2_19 c39 rfl ?_
      refine zA_iload_n dX2_layLast_38 rfl ?_
      refine zA_iaload dX2_layLast_39 c41 (by first | assumption | omega) (by first | assumption | omega) (by decide) ?_
      refine zA_iconst dX2_layLast_40 ?_
      refine zA_iadd dX2_layLast_41 ?_
      refine zA_valI (exF L x (w 41 o) (w 42 o)) (by unfold exF; first | rw [if_pos (by omega)] | rw [if_neg (by omega)]) ?_
      have hef : 0 ≤ exF L x (w 41 o) (w 42 o) ∧ exF L x (w 41 o) (w 42 o) ≤ 11 := by unfold exF; split <;> omega
      refine zA_istore (lo1 := [zR 39, zI s, zI o, zI x, zI L, zI 0, zI (exF L x (w 41 o) (w 42 o)), .null]) dX2_layLast_42 (by decide) rfl rfl ?_
      refine zA_iload dX2_layLast_44 rfl ?_
      refine zA_if_eq (tgt := 60) dX2_layLast_46 (by decide) ⟨by decide, by decide⟩ (fun c46 => ?_) (fun c46 => ?_)
      · skip
        refine zA_iload_n dX2_layLast_60 rfl ?_
        refine zA_valI (exB L x (w 42 o)) (by unfold exB; first | rw [if_pos (by omega)] | rw [if_neg (by omega)]) ?_
        have heb : 0 ≤ exB L x (w 42 o) ∧ exB L x (w 42 o) ≤ L := by unfold exB; split <;> omega
        refine zA_istore (lo1 := [zR 39, zI s, zI o, zI x, zI L, zI 0, zI (exF L x (w 41 o) (w 42 o)), zI (exB L x (w 42 o))]) dX2_layLast_61 (by decide) rfl rfl ?_
        refine zA_iload dX2_layLast_63 rfl ?_
        refine zA_aload_n dX2_layLast_65 rfl ?_
        refine zA_getR (n := 41) dX2_layLast_66 fX2_19 c39 rfl ?_
        refine zA_iload_n dX2_layLast_69 rfl ?_
        refine zA_iaload dX2_layLast_70 c41 (by first | assumption | omega) (by first | assumption | omega) (by decide) ?_
        refine zA_icmp_lt (tgt := 96) dX2_layLast_71 (by decide) (by first | assumption | exact hr _ _ | exact inR_mk (by omega) (by omega)) (by first | assumption | exact hr _ _ | exact inR_mk (by omega) (by omega)) (fun c71 => ?_) (fun c71 => ?_)
        · skip
          refine zA_aload_n dX2_layLast_96 rfl ?_
          refine zA_getR (n := 41) dX2_layLast_97 fX2_19 c39 rfl ?_
          refine zA_iload_n dX2_layLast_100 rfl ?_
          refine zA_iload dX2_layLast_101 rfl ?_
          refine zA_iastore dX2_layLast_103 (by first | assumption | exact hr _ _ | exact inR_mk (by omega) (by omega)) c41 (by first | assumption | omega) (by first | assumption | omega) (by decide) ?_
          refine zA_namew (fun w_1 hw_1 => ?_)
          refine zA_range (fun hr => ?_)
          replace hw_1 : w_1 = up w 41 s (exF L x (w 41 o) (w 42 o)) := hw_1
          refine zA_aload_n dX2_layLast_104 rfl ?_
          refine zA_getR (n := 42) dX2_layLast_105 fX2_22 c39 rfl ?_
          refine zA_iload_n dX2_layLast_108 rfl ?_
          refine zA_iload dX2_layLast_109 rfl ?_
          refine zA_iastore dX2_layLast_111 (by first | assumption | exact hr _ _ | exact inR_mk (by omega) (by omega)) c42 (by first | assumption | omega) (by first | assumption | omega) (by decide) ?_
          refine zA_namew (fun w_2 hw_2 => ?_)
          refine zA_range (fun hr => ?_)
          replace hw_2 : w_2 = up w_1 42 s (exB L x (w 42 o)) := hw_2
          refine zA_vret dX2_layLast_112 rfl ?_
          exact ⟨rfl, rfl, Or.inl ⟨by omega, by rw [hw_2, hw_1]⟩⟩
        · skip
          refine zA_iload dX2_layLast_74 rfl ?_
          refine zA_aload_n dX2_layLast_76 rfl ?_
          refine zA_getR (n := 41) dX2_layLast_77 fX2_19 c39 rfl ?_
          refine zA_iload_n dX2_layLast_80 rfl ?_
          refine zA_iaload dX2_layLast_81 c41 (by first | assumption | omega) (by first | assumption | omega) (by decide) ?_
          refine zA_icmp_ne (tgt := 112) dX2_layLast_82 (by decide) (by first | assumption | exact hr _ _ | exact inR_mk (by omega) (by omega)) (by first | assumption | exact hr _ _ | exact inR_mk (by omega) (by omega)) (fun c82 => ?_) (fun c82 => ?_)
          · skip
            refine zA_vret dX2_layLast_112 rfl ?_
            exact ⟨rfl, rfl, Or.inr ⟨by omega, rfl⟩⟩
          · skip
            refine zA_iload dX2_layLast_85 rfl ?_
            refine zA_aload_n dX2_layLast_87 rfl ?_
            refine zA_getR (n := 42) dX2_layLast_88 fX2_22 c39 rfl ?_
            refine zA_iload_n dX2_layLast_91 rfl ?_
            refine zA_iaload dX2_layLast_92 c42 (by first | assumption | omega) (by first | assumption | omega) (by decide) ?_
            refine zA_icmp_ge (tgt := 112) dX2_layLast_93 (by decide) (by first | assumption | exact hr _ _ | exact inR_mk (by omega) (by omega)) (by first | assumption | exact hr _ _ | exact inR_mk (by omega) (by omega)) (fun c93 => ?_) (fun c93 => ?_)
            · skip
              refine zA_vret dX2_layLast_112 rfl ?_
              exact ⟨rfl, rfl, Or.inr ⟨by omega, rfl⟩⟩
            · skip
              refine zA_aload_n dX2_layLast_96 rfl ?_
              refine zA_getR (n := 41) dX2_layLast_97 fX2_19 c39 rfl ?_
              refine zA_iload_n dX2_layLast_100 rfl ?_
              refine zA_iload dX2_layLast_101 rfl ?_
              refine zA_iastore dX2_layLast_103 (by first | assumption | exact hr _ _ | exact inR_mk (by omega) (by omega)) c41 (by first | assumption | omega) (by first | assumption | omega) (by decide) ?_
              refine zA_namew (fun w_3 hw_3 => ?_)
              refine zA_range (fun hr => ?_)
              replace hw_3 : w_3 = up w 41 s (exF L x (w 41 o) (w 42 o)) := hw_3
              refine zA_aload_n dX2_layLast_104 rfl ?_
              refine zA_getR (n := 42) dX2_layLast_105 fX2_22 c39 rfl ?_
              refine zA_iload_n dX2_layLast_108 rfl ?_
              refine zA_iload dX2_layLast_109 rfl ?_
              refine zA_iastore dX2_layLast_111 (by first | assumption | exact hr _ _ | exact inR_mk (by omega) (by omega)) c42 (by first | assumption | omega) (by first | assumption | omega) (by decide) ?_
              refine zA_namew (fun w_4 hw_4 => ?_)
              refine zA_range (fun hr => ?_)
              replace hw_4 : w_4 = up w_3 42 s (exB L x (w 42 o)) := hw_4
              refine zA_vret dX2_layLast_112 rfl ?_
              exact ⟨rfl, rfl, Or.inl ⟨by omega, by rw [hw_4, hw_3]⟩⟩
      · skip
        refine zA_aload_n dX2_layLast_49 rfl ?_
        refine zA_getR (n := 42) dX2_layLast_50 fX2_22 c39 rfl ?_
        refine zA_iload_n dX2_layLast_53 rfl ?_
        refine zA_iaload dX2_layLast_54 c42 (by first | assumption | omega) (by first | assumption | omega) (by decide) ?_
        refine zA_iload_n dX2_layLast_55 rfl ?_
        refine zA_iadd dX2_layLast_56 ?_
        refine zA_goto (tgt := 61) dX2_layLast_57 (by decide) ?_
        refine zA_valI (exB L x (w 42 o)) (by unfold exB; first | rw [if_pos (by omega)] | rw [if_neg (by omega)]) ?_
        have heb : 0 ≤ exB L x (w 42 o) ∧ exB L x (w 42 o) ≤ L := by unfold exB; split <;> omega
        refine zA_istore (lo1 := [zR 39, zI s, zI o, zI x, zI L, zI 0, zI (exF L x (w 41 o) (w 42 o)), zI (exB L x (w 42 o))]) dX2_layLast_61 (by decide) rfl rfl ?_
        refine zA_iload dX2_layLast_63 rfl ?_
        refine zA_aload_n dX2_layLast_65 rfl ?_
        refine zA_getR (n := 41) dX2_layLast_66 fX2_19 c39 rfl ?_
        refine zA_iload_n dX2_layLast_69 rfl ?_
        refine zA_iaload dX2_layLast_70 c41 (by first | assumption | omega) (by first | assumption | omega) (by decide) ?_
        refine zA_icmp_lt (tgt := 96) dX2_layLast_71 (by decide) (by first | assumption | exact hr _ _ | exact inR_mk (by omega) (by omega)) (by first | assumption | exact hr _ _ | exact inR_mk (by omega) (by omega)) (fun c71 => ?_) (fun c71 => ?_)
        · skip
          refine zA_aload_n dX2_layLast_96 rfl ?_
          refine zA_getR (n := 41) dX2_layLast_97 fX2_19 c39 rfl ?_
          refine zA_iload_n dX2_layLast_100 rfl ?_
          refine zA_iload dX2_layLast_101 rfl ?_
          refine zA_iastore dX2_layLast_103 (by first | assumption | exact hr _ _ | exact inR_mk (by omega) (by omega)) c41 (by first | assumption | omega) (by first | assumption | omega) (by decide) ?_
          refine zA_namew (fun w_5 hw_5 => ?_)
          refine zA_range (fun hr => ?_)
          replace hw_5 : w_5 = up w 41 s (exF L x (w 41 o) (w 42 o)) := hw_5
          refine zA_aload_n dX2_layLast_104 rfl ?_
          refine zA_getR (n := 42) dX2_layLast_105 fX2_22 c39 rfl ?_
          refine zA_iload_n dX2_layLast_108 rfl ?_
          refine zA_iload dX2_layLast_109 rfl ?_
          refine zA_iastore dX2_layLast_111 (by first | assumption | exact hr _ _ | exact inR_mk (by omega) (by omega)) c42 (by first | assumption | omega) (by first | assumption | omega) (by decide) ?_
          refine zA_namew (fun w_6 hw_6 => ?_)
          refine zA_range (fun hr => ?_)
          replace hw_6 : w_6 = up w_5 42 s (exB L x (w 42 o)) := hw_6
          refine zA_vret dX2_layLast_112 rfl ?_
          exact ⟨rfl, rfl, Or.inl ⟨by omega, by rw [hw_6, hw_5]⟩⟩
        · skip
          refine zA_iload dX2_layLast_74 rfl ?_
          refine zA_aload_n dX2_layLast_76 rfl ?_
          refine zA_getR (n := 41) dX2_layLast_77 fX2_19 c39 rfl ?_
          refine zA_iload_n dX2_layLast_80 rfl ?_
          refine zA_iaload dX2_layLast_81 c41 (by first | assumption | omega) (by first | assumption | omega) (by decide) ?_
          refine zA_icmp_ne (tgt := 112) dX2_layLast_82 (by decide) (by first | assumption | exact hr _ _ | exact inR_mk (by omega) (by omega)) (by first | assumption | exact hr _ _ | exact inR_mk (by omega) (by omega)) (fun c82 => ?_) (fun c82 => ?_)
          · skip
            refine zA_vret dX2_layLast_112 rfl ?_
            exact ⟨rfl, rfl, Or.inr ⟨by omega, rfl⟩⟩
          · skip
            refine zA_iload dX2_layLast_85 rfl ?_
            refine zA_aload_n dX2_layLast_87 rfl ?_
            refine zA_getR (n := 42) dX2_layLast_88 fX2_22 c39 rfl ?_
            refine zA_iload_n dX2_layLast_91 rfl ?_
            refine zA_iaload dX2_layLast_92 c42 (by first | assumption | omega) (by first | assumption | omega) (by decide) ?_
            refine zA_icmp_ge (tgt := 112) dX2_layLast_93 (by decide) (by first | assumption | exact hr _ _ | exact inR_mk (by omega) (by omega)) (by first | assumption | exact hr _ _ | exact inR_mk (by omega) (by omega)) (fun c93 => ?_) (fun c93 => ?_)
            · skip
              refine zA_vret dX2_layLast_112 rfl ?_
              exact ⟨rfl, rfl, Or.inr ⟨by omega, rfl⟩⟩
            · skip
              refine zA_aload_n dX2_layLast_96 rfl ?_
              refine zA_getR (n := 41) dX2_layLast_97 fX2_19 c39 rfl ?_
              refine zA_iload_n dX2_layLast_100 rfl ?_
              refine zA_iload dX2_layLast_101 rfl ?_
              refine zA_iastore dX2_layLast_103 (by first | assumption | exact hr _ _ | exact inR_mk (by omega) (by omega)) c41 (by first | assumption | omega) (by first | assumption | omega) (by decide) ?_
              refine zA_namew (fun w_7 hw_7 => ?_)
              refine zA_range (fun hr => ?_)
              replace hw_7 : w_7 = up w 41 s (exF L x (w 41 o) (w 42 o)) := hw_7
              refine zA_aload_n dX2_layLast_104 rfl ?_
              refine zA_getR (n := 42) dX2_layLast_105 fX2_22 c39 rfl ?_
              refine zA_iload_n dX2_layLast_108 rfl ?_
              refine zA_iload dX2_layLast_109 rfl ?_
              refine zA_iastore dX2_layLast_111 (by first | assumption | exact hr _ _ | exact inR_mk (by omega) (by omega)) c42 (by first | assumption | omega) (by first | assumption | omega) (by decide) ?_
              refine zA_namew (fun w_8 hw_8 => ?_)
              refine zA_range (fun hr => ?_)
              replace hw_8 : w_8 = up w_7 42 s (exB L x (w 42 o)) := hw_8
              refine zA_vret dX2_layLast_112 rfl ?_
              exact ⟨rfl, rfl, Or.inl ⟨by omega, by rw [hw_8, hw_7]⟩⟩
    · skip
      refine zA_aload_n dX2_layLast_25 rfl ?_
      refine zA_getR (n := 41) dX2_layLast_26 fX2_19 c39 rfl ?_
      refine zA_iload_n dX2_layLast_29 rfl ?_
      refine zA_iaload dX2_layLast_30 c41 (by first | assumption | omega) (by first | assumption | omega) (by decide) ?_
      refine zA_goto (tgt := 42) dX2_layLast_31 (by decide) ?_
      refine zA_valI (exF L x (w 41 o) (w 42 o)) (by unfold exF; first | rw [if_pos (by omega)] | rw [if_neg (by omega)]) ?_
      have hef : 0 ≤ exF L x (w 41 o) (w 42 o) ∧ exF L x (w 41 o) (w 42 o) ≤ 11 := by unfold exF; split <;> omega
      refine zA_istore (lo1 := [zR 39, zI s, zI o, zI x, zI L, zI 0, zI (exF L x (w 41 o) (w 42 o)), .null]) dX2_layLast_42 (by decide) rfl rfl ?_
      refine zA_iload dX2_layLast_44 rfl ?_
      refine zA_if_eq (tgt := 60) dX2_layLast_46 (by decide) ⟨by decide, by decide⟩ (fun c46 => ?_) (fun c46 => ?_)
      · skip
        refine zA_iload_n dX2_layLast_60 rfl ?_
        refine zA_valI (exB L x (w 42 o)) (by unfold exB; first | rw [if_pos (by omega)] | rw [if_neg (by omega)]) ?_
        have heb : 0 ≤ exB L x (w 42 o) ∧ exB L x (w 42 o) ≤ L := by unfold exB; split <;> omega
        refine zA_istore (lo1 := [zR 39, zI s, zI o, zI x, zI L, zI 0, zI (exF L x (w 41 o) (w 42 o)), zI (exB L x (w 42 o))]) dX2_layLast_61 (by decide) rfl rfl ?_
        refine zA_iload dX2_layLast_63 rfl ?_
        refine zA_aload_n dX2_layLast_65 rfl ?_
        refine zA_getR (n := 41) dX2_layLast_66 fX2_19 c39 rfl ?_
        refine zA_iload_n dX2_layLast_69 rfl ?_
        refine zA_iaload dX2_layLast_70 c41 (by first | assumption | omega) (by first | assumption | omega) (by decide) ?_
        refine zA_icmp_lt (tgt := 96) dX2_layLast_71 (by decide) (by first | assumption | exact hr _ _ | exact inR_mk (by omega) (by omega)) (by first | assumption | exact hr _ _ | exact inR_mk (by omega) (by omega)) (fun c71 => ?_) (fun c71 => ?_)
        · skip
          refine zA_aload_n dX2_layLast_96 rfl ?_
          refine zA_getR (n := 41) dX2_layLast_97 fX2_19 c39 rfl ?_
          refine zA_iload_n dX2_layLast_100 rfl ?_
          refine zA_iload dX2_layLast_101 rfl ?_
          refine zA_iastore dX2_layLast_103 (by first | assumption | exact hr _ _ | exact inR_mk (by omega) (by omega)) c41 (by first | assumption | omega) (by first | assumption | omega) (by decide) ?_
          refine zA_namew (fun w_9 hw_9 => ?_)
          refine zA_range (fun hr => ?_)
          replace hw_9 : w_9 = up w 41 s (exF L x (w 41 o) (w 42 o)) := hw_9
          refine zA_aload_n dX2_layLast_104 rfl ?_
          refine zA_getR (n := 42) dX2_layLast_105 fX2_22 c39 rfl ?_
          refine zA_iload_n dX2_layLast_108 rfl ?_
          refine zA_iload dX2_layLast_109 rfl ?_
          refine zA_iastore dX2_layLast_111 (by first | assumption | exact hr _ _ | exact inR_mk (by omega) (by omega)) c42 (by first | assumption | omega) (by first | assumption | omega) (by decide) ?_
          refine zA_namew (fun w_10 hw_10 => ?_)
          refine zA_range (fun hr => ?_)
          replace hw_10 : w_10 = up w_9 42 s (exB L x (w 42 o)) := hw_10
          refine zA_vret dX2_layLast_112 rfl ?_
          exact ⟨rfl, rfl, Or.inl ⟨by omega, by rw [hw_10, hw_9]⟩⟩
        · skip
          refine zA_iload dX2_layLast_74 rfl ?_
          refine zA_aload_n dX2_layLast_76 rfl ?_
          refine zA_getR (n := 41) dX2_layLast_77 fX2_19 c39 rfl ?_
          refine zA_iload_n dX2_layLast_80 rfl ?_
          refine zA_iaload dX2_layLast_81 c41 (by first | assumption | omega) (by first | assumption | omega) (by decide) ?_
          refine zA_icmp_ne (tgt := 112) dX2_layLast_82 (by decide) (by first | assumption | exact hr _ _ | exact inR_mk (by omega) (by omega)) (by first | assumption | exact hr _ _ | exact inR_mk (by omega) (by omega)) (fun c82 => ?_) (fun c82 => ?_)
          · skip
            refine zA_vret dX2_layLast_112 rfl ?_
            exact ⟨rfl, rfl, Or.inr ⟨by omega, rfl⟩⟩
          · skip
            refine zA_iload dX2_layLast_85 rfl ?_
            refine zA_aload_n dX2_layLast_87 rfl ?_
            refine zA_getR (n := 42) dX2_layLast_88 fX2_22 c39 rfl ?_
            refine zA_iload_n dX2_layLast_91 rfl ?_
            refine zA_iaload dX2_layLast_92 c42 (by first | assumption | omega) (by first | assumption | omega) (by decide) ?_
            refine zA_icmp_ge (tgt := 112) dX2_layLast_93 (by decide) (by first | assumption | exact hr _ _ | exact inR_mk (by omega) (by omega)) (by first | assumption | exact hr _ _ | exact inR_mk (by omega) (by omega)) (fun c93 => ?_) (fun c93 => ?_)
            · skip
              refine zA_vret dX2_layLast_112 rfl ?_
              exact ⟨rfl, rfl, Or.inr ⟨by omega, rfl⟩⟩
            · skip
              refine zA_aload_n dX2_layLast_96 rfl ?_
              refine zA_getR (n := 41) dX2_layLast_97 fX2_19 c39 rfl ?_
              refine zA_iload_n dX2_layLast_100 rfl ?_
              refine zA_iload dX2_layLast_101 rfl ?_
              refine zA_iastore dX2_layLast_103 (by first | assumption | exact hr _ _ | exact inR_mk (by omega) (by omega)) c41 (by first | assumption | omega) (by first | assumption | omega) (by decide) ?_
              refine zA_namew (fun w_11 hw_11 => ?_)
              refine zA_range (fun hr => ?_)
              replace hw_11 : w_11 = up w 41 s (exF L x (w 41 o) (w 42 o)) := hw_11
              refine zA_aload_n dX2_layLast_104 rfl ?_
              refine zA_getR (n := 42) dX2_layLast_105 fX2_22 c39 rfl ?_
              refine zA_iload_n dX2_layLast_108 rfl ?_
              refine zA_iload dX2_layLast_109 rfl ?_
              refine zA_iastore dX2_layLast_111 (by first | assumption | exact hr _ _ | exact inR_mk (by omega) (by omega)) c42 (by first | assumption | omega) (by first | assumption | omega) (by decide) ?_
              refine zA_namew (fun w_12 hw_12 => ?_)
              refine zA_range (fun hr => ?_)
              replace hw_12 : w_12 = up w_11 42 s (exB L x (w 42 o)) := hw_12
              refine zA_vret dX2_layLast_112 rfl ?_
              exact ⟨rfl, rfl, Or.inl ⟨by omega, by rw [hw_12, hw_11]⟩⟩
      · skip
        refine zA_aload_n dX2_layLast_49 rfl ?_
        refine zA_getR (n := 42) dX2_layLast_50 fX2_22 c39 rfl ?_
        refine zA_iload_n dX2_layLast_53 rfl ?_
        refine zA_iaload dX2_layLast_54 c42 (by first | assumption | omega) (by first | assumption | omega) (by decide) ?_
        refine zA_iload_n dX2_layLast_55 rfl ?_
        refine zA_iadd dX2_layLast_56 ?_
        refine zA_goto (tgt := 61) dX2_layLast_57 (by decide) ?_
        refine zA_valI (exB L x (w 42 o)) (by unfold exB; first | rw [if_pos (by omega)] | rw [if_neg (by omega)]) ?_
        have heb : 0 ≤ exB L x (w 42 o) ∧ exB L x (w 42 o) ≤ L := by unfold exB; split <;> omega
        refine zA_istore (lo1 := [zR 39, zI s, zI o, zI x, zI L, zI 0, zI (exF L x (w 41 o) (w 42 o)), zI (exB L x (w 42 o))]) dX2_layLast_61 (by decide) rfl rfl ?_
        refine zA_iload dX2_layLast_63 rfl ?_
        refine zA_aload_n dX2_layLast_65 rfl ?_
        refine zA_getR (n := 41) dX2_layLast_66 fX2_19 c39 rfl ?_
        refine zA_iload_n dX2_layLast_69 rfl ?_
        refine zA_iaload dX2_layLast_70 c41 (by first | assumption | omega) (by first | assumption | omega) (by decide) ?_
        refine zA_icmp_lt (tgt := 96) dX2_layLast_71 (by decide) (by first | assumption | exact hr _ _ | exact inR_mk (by omega) (by omega)) (by first | assumption | exact hr _ _ | exact inR_mk (by omega) (by omega)) (fun c71 => ?_) (fun c71 => ?_)
        · skip
          refine zA_aload_n dX2_layLast_96 rfl ?_
          refine zA_getR (n := 41) dX2_layLast_97 fX2_19 c39 rfl ?_
          refine zA_iload_n dX2_layLast_100 rfl ?_
          refine zA_iload dX2_layLast_101 rfl ?_
          refine zA_iastore dX2_layLast_103 (by first | assumption | exact hr _ _ | exact inR_mk (by omega) (by omega)) c41 (by first | assumption | omega) (by first | assumption | omega) (by decide) ?_
          refine zA_namew (fun w_13 hw_13 => ?_)
          refine zA_range (fun hr => ?_)
          replace hw_13 : w_13 = up w 41 s (exF L x (w 41 o) (w 42 o)) := hw_13
          refine zA_aload_n dX2_layLast_104 rfl ?_
          refine zA_getR (n := 42) dX2_layLast_105 fX2_22 c39 rfl ?_
          refine zA_iload_n dX2_layLast_108 rfl ?_
          refine zA_iload dX2_layLast_109 rfl ?_
          refine zA_iastore dX2_layLast_111 (by first | assumption | exact hr _ _ | exact inR_mk (by omega) (by omega)) c42 (by first | assumption | omega) (by first | assumption | omega) (by decide) ?_
          refine zA_namew (fun w_14 hw_14 => ?_)
          refine zA_range (fun hr => ?_)
          replace hw_14 : w_14 = up w_13 42 s (exB L x (w 42 o)) := hw_14
          refine zA_vret dX2_layLast_112 rfl ?_
          exact ⟨rfl, rfl, Or.inl ⟨by omega, by rw [hw_14, hw_13]⟩⟩
        · skip
          refine zA_iload dX2_layLast_74 rfl ?_
          refine zA_aload_n dX2_layLast_76 rfl ?_
          refine zA_getR (n := 41) dX2_layLast_77 fX2_19 c39 rfl ?_
          refine zA_iload_n dX2_layLast_80 rfl ?_
          refine zA_iaload dX2_layLast_81 c41 (by first | assumption | omega) (by first | assumption | omega) (by decide) ?_
          refine zA_icmp_ne (tgt := 112) dX2_layLast_82 (by decide) (by first | assumption | exact hr _ _ | exact inR_mk (by omega) (by omega)) (by first | assumption | exact hr _ _ | exact inR_mk (by omega) (by omega)) (fun c82 => ?_) (fun c82 => ?_)
          · skip
            refine zA_vret dX2_layLast_112 rfl ?_
            exact ⟨rfl, rfl, Or.inr ⟨by omega, rfl⟩⟩
          · skip
            refine zA_iload dX2_layLast_85 rfl ?_
            refine zA_aload_n dX2_layLast_87 rfl ?_
            refine zA_getR (n := 42) dX2_layLast_88 fX2_22 c39 rfl ?_
            refine zA_iload_n dX2_layLast_91 rfl ?_
            refine zA_iaload dX2_layLast_92 c42 (by first | assumption | omega) (by first | assumption | omega) (by decide) ?_
            refine zA_icmp_ge (tgt := 112) dX2_layLast_93 (by decide) (by first | assumption | exact hr _ _ | exact inR_mk (by omega) (by omega)) (by first | assumption | exact hr _ _ | exact inR_mk (by omega) (by omega)) (fun c93 => ?_) (fun c93 => ?_)
            · skip
              refine zA_vret dX2_layLast_112 rfl ?_
              exact ⟨rfl, rfl, Or.inr ⟨by omega, rfl⟩⟩
            · skip
              refine zA_aload_n dX2_layLast_96 rfl ?_
              refine zA_getR (n := 41) dX2_layLast_97 fX2_19 c39 rfl ?_
              refine zA_iload_n dX2_layLast_100 rfl ?_
              refine zA_iload dX2_layLast_101 rfl ?_
              refine zA_iastore dX2_layLast_103 (by first | assumption | exact hr _ _ | exact inR_mk (by omega) (by omega)) c41 (by first | assumption | omega) (by first | assumption | omega) (by decide) ?_
              refine zA_namew (fun w_15 hw_15 => ?_)
              refine zA_range (fun hr => ?_)
              replace hw_15 : w_15 = up w 41 s (exF L x (w 41 o) (w 42 o)) := hw_15
              refine zA_aload_n dX2_layLast_104 rfl ?_
              refine zA_getR (n := 42) dX2_layLast_105 fX2_22 c39 rfl ?_
              refine zA_iload_n dX2_layLast_108 rfl ?_
              refine zA_iload dX2_layLast_109 rfl ?_
              refine zA_iastore dX2_layLast_111 (by first | assumption | exact hr _ _ | exact inR_mk (by omega) (by omega)) c42 (by first | assumption | omega) (by first | assumption | omega) (by decide) ?_
              refine zA_namew (fun w_16 hw_16 => ?_)
              refine zA_range (fun hr => ?_)
              replace hw_16 : w_16 = up w_15 42 s (exB L x (w 42 o)) := hw_16
              refine zA_vret dX2_layLast_112 rfl ?_
              exact ⟨rfl, rfl, Or.inl ⟨by omega, by rw [hw_16, hw_15]⟩⟩
  · skip
    refine zA_iconst dX2_layLast_13 ?_
    refine zA_goto (tgt := 18) dX2_layLast_14 (by decide) ?_
    refine zA_istore (lo1 := [zR 39, zI s, zI o, zI x, zI L, zI 1, .null, .null]) dX2_layLast_18 (by decide) rfl rfl ?_
    refine zA_iload dX2_layLast_20 rfl ?_
    refine zA_if_eq (tgt := 34) dX2_layLast_22 (by decide) ⟨by decide, by decide⟩ (fun c22 => ?_) (fun c22 => ?_)
    · skip
      refine zA_aload_n dX2_layLast_34 rfl ?_
      refine zA_getR (n := 41) dX2_layLast_35 fX2_19 c39 rfl ?_
      refine zA_iload_n dX2_layLast_38 rfl ?_
      refine zA_iaload dX2_layLast_39 c41 (by first | assumption | omega) (by first | assumption | omega) (by decide) ?_
      refine zA_iconst dX2_layLast_40 ?_
      refine zA_iadd dX2_layLast_41 ?_
      refine zA_valI (exF L x (w 41 o) (w 42 o)) (by unfold exF; first | rw [if_pos (by omega)] | rw [if_neg (by omega)]) ?_
      have hef : 0 ≤ exF L x (w 41 o) (w 42 o) ∧ exF L x (w 41 o) (w 42 o) ≤ 11 := by unfold exF; split <;> omega
      refine zA_istore (lo1 := [zR 39, zI s, zI o, zI x, zI L, zI 1, zI (exF L x (w 41 o) (w 42 o)), .null]) dX2_layLast_42 (by decide) rfl rfl ?_
      refine zA_iload dX2_layLast_44 rfl ?_
      refine zA_if_eq (tgt := 60) dX2_layLast_46 (by decide) ⟨by decide, by decide⟩ (fun c46 => ?_) (fun c46 => ?_)
      · skip
        refine zA_iload_n dX2_layLast_60 rfl ?_
        refine zA_valI (exB L x (w 42 o)) (by unfold exB; first | rw [if_pos (by omega)] | rw [if_neg (by omega)]) ?_
        have heb : 0 ≤ exB L x (w 42 o) ∧ exB L x (w 42 o) ≤ L := by unfold exB; split <;> omega
        refine zA_istore (lo1 := [zR 39, zI s, zI o, zI x, zI L, zI 1, zI (exF L x (w 41 o) (w 42 o)), zI (exB L x (w 42 o))]) dX2_layLast_61 (by decide) rfl rfl ?_
        refine zA_iload dX2_layLast_63 rfl ?_
        refine zA_aload_n dX2_layLast_65 rfl ?_
        refine zA_getR (n := 41) dX2_layLast_66 fX2_19 c39 rfl ?_
        refine zA_iload_n dX2_layLast_69 rfl ?_
        refine zA_iaload dX2_layLast_70 c41 (by first | assumption | omega) (by first | assumption | omega) (by decide) ?_
        refine zA_icmp_lt (tgt := 96) dX2_layLast_71 (by decide) (by first | assumption | exact hr _ _ | exact inR_mk (by omega) (by omega)) (by first | assumption | exact hr _ _ | exact inR_mk (by omega) (by omega)) (fun c71 => ?_) (fun c71 => ?_)
        · skip
          refine zA_aload_n dX2_layLast_96 rfl ?_
          refine zA_getR (n := 41) dX2_layLast_97 fX2_19 c39 rfl ?_
          refine zA_iload_n dX2_layLast_100 rfl ?_
          refine zA_iload dX2_layLast_101 rfl ?_
          refine zA_iastore dX2_layLast_103 (by first | assumption | exact hr _ _ | exact inR_mk (by omega) (by omega)) c41 (by first | assumption | omega) (by first | assumption | omega) (by decide) ?_
          refine zA_namew (fun w_17 hw_17 => ?_)
          refine zA_range (fun hr => ?_)
          replace hw_17 : w_17 = up w 41 s (exF L x (w 41 o) (w 42 o)) := hw_17
          refine zA_aload_n dX2_layLast_104 rfl ?_
          refine zA_getR (n := 42) dX2_layLast_105 fX2_22 c39 rfl ?_
          refine zA_iload_n dX2_layLast_108 rfl ?_
          refine zA_iload dX2_layLast_109 rfl ?_
          refine zA_iastore dX2_layLast_111 (by first | assumption | exact hr _ _ | exact inR_mk (by omega) (by omega)) c42 (by first | assumption | omega) (by first | assumption | omega) (by decide) ?_
          refine zA_namew (fun w_18 hw_18 => ?_)
          refine zA_range (fun hr => ?_)
          replace hw_18 : w_18 = up w_17 42 s (exB L x (w 42 o)) := hw_18
          refine zA_vret dX2_layLast_112 rfl ?_
          exact ⟨rfl, rfl, Or.inl ⟨by omega, by rw [hw_18, hw_17]⟩⟩
        · skip
          refine zA_iload dX2_layLast_74 rfl ?_
          refine zA_aload_n dX2_layLast_76 rfl ?_
          refine zA_getR (n := 41) dX2_layLast_77 fX2_19 c39 rfl ?_
          refine zA_iload_n dX2_layLast_80 rfl ?_
          refine zA_iaload dX2_layLast_81 c41 (by first | assumption | omega) (by first | assumption | omega) (by decide) ?_
          refine zA_icmp_ne (tgt := 112) dX2_layLast_82 (by decide) (by first | assumption | exact hr _ _ | exact inR_mk (by omega) (by omega)) (by first | assumption | exact hr _ _ | exact inR_mk (by omega) (by omega)) (fun c82 => ?_) (fun c82 => ?_)
          · skip
            refine zA_vret dX2_layLast_112 rfl ?_
            exact ⟨rfl, rfl, Or.inr ⟨by omega, rfl⟩⟩
          · skip
            refine zA_iload dX2_layLast_85 rfl ?_
            refine zA_aload_n dX2_layLast_87 rfl ?_
            refine zA_getR (n := 42) dX2_layLast_88 fX2_22 c39 rfl ?_
            refine zA_iload_n dX2_layLast_91 rfl ?_
            refine zA_iaload dX2_layLast_92 c42 (by first | assumption | omega) (by first | assumption | omega) (by decide) ?_
            refine zA_icmp_ge (tgt := 112) dX2_layLast_93 (by decide) (by first | assumption | exact hr _ _ | exact inR_mk (by omega) (by omega)) (by first | assumption | exact hr _ _ | exact inR_mk (by omega) (by omega)) (fun c93 => ?_) (fun c93 => ?_)
            · skip
              refine zA_vret dX2_layLast_112 rfl ?_
              exact ⟨rfl, rfl, Or.inr ⟨by omega, rfl⟩⟩
            · skip
              refine zA_aload_n dX2_layLast_96 rfl ?_
              refine zA_getR (n := 41) dX2_layLast_97 fX2_19 c39 rfl ?_
              refine zA_iload_n dX2_layLast_100 rfl ?_
              refine zA_iload dX2_layLast_101 rfl ?_
              refine zA_iastore dX2_layLast_103 (by first | assumption | exact hr _ _ | exact inR_mk (by omega) (by omega)) c41 (by first | assumption | omega) (by first | assumption | omega) (by decide) ?_
              refine zA_namew (fun w_19 hw_19 => ?_)
              refine zA_range (fun hr => ?_)
              replace hw_19 : w_19 = up w 41 s (exF L x (w 41 o) (w 42 o)) := hw_19
              refine zA_aload_n dX2_layLast_104 rfl ?_
              refine zA_getR (n := 42) dX2_layLast_105 fX2_22 c39 rfl ?_
              refine zA_iload_n dX2_layLast_108 rfl ?_
              refine zA_iload dX2_layLast_109 rfl ?_
              refine zA_iastore dX2_layLast_111 (by first | assumption | exact hr _ _ | exact inR_mk (by omega) (by omega)) c42 (by first | assumption | omega) (by first | assumption | omega) (by decide) ?_
              refine zA_namew (fun w_20 hw_20 => ?_)
              refine zA_range (fun hr => ?_)
              replace hw_20 : w_20 = up w_19 42 s (exB L x (w 42 o)) := hw_20
              refine zA_vret dX2_layLast_112 rfl ?_
              exact ⟨rfl, rfl, Or.inl ⟨by omega, by rw [hw_20, hw_19]⟩⟩
      · skip
        refine zA_aload_n dX2_layLast_49 rfl ?_
        refine zA_getR (n := 42) dX2_layLast_50 fX2_22 c39 rfl ?_
        refine zA_iload_n dX2_layLast_53 rfl ?_
        refine zA_iaload dX2_layLast_54 c42 (by first | assumption | omega) (by first | assumption | omega) (by decide) ?_
        refine zA_iload_n dX2_layLast_55 rfl ?_
        refine zA_iadd dX2_layLast_56 ?_
        refine zA_goto (tgt := 61) dX2_layLast_57 (by decide) ?_
        refine zA_valI (exB L x (w 42 o)) (by unfold exB; first | rw [if_pos (by omega)] | rw [if_neg (by omega)]) ?_
        have heb : 0 ≤ exB L x (w 42 o) ∧ exB L x (w 42 o) ≤ L := by unfold exB; split <;> omega
        refine zA_istore (lo1 := [zR 39, zI s, zI o, zI x, zI L, zI 1, zI (exF L x (w 41 o) (w 42 o)), zI (exB L x (w 42 o))]) dX2_layLast_61 (by decide) rfl rfl ?_
        refine zA_iload dX2_layLast_63 rfl ?_
        refine zA_aload_n dX2_layLast_65 rfl ?_
        refine zA_getR (n := 41) dX2_layLast_66 fX2_19 c39 rfl ?_
        refine zA_iload_n dX2_layLast_69 rfl ?_
        refine zA_iaload dX2_layLast_70 c41 (by first | assumption | omega) (by first | assumption | omega) (by decide) ?_
        refine zA_icmp_lt (tgt := 96) dX2_layLast_71 (by decide) (by first | assumption | exact hr _ _ | exact inR_mk (by omega) (by omega)) (by first | assumption | exact hr _ _ | exact inR_mk (by omega) (by omega)) (fun c71 => ?_) (fun c71 => ?_)
        · skip
          refine zA_aload_n dX2_layLast_96 rfl ?_
          refine zA_getR (n := 41) dX2_layLast_97 fX2_19 c39 rfl ?_
          refine zA_iload_n dX2_layLast_100 rfl ?_
          refine zA_iload dX2_layLast_101 rfl ?_
          refine zA_iastore dX2_layLast_103 (by first | assumption | exact hr _ _ | exact inR_mk (by omega) (by omega)) c41 (by first | assumption | omega) (by first | assumption | omega) (by decide) ?_
          refine zA_namew (fun w_21 hw_21 => ?_)
          refine zA_range (fun hr => ?_)
          replace hw_21 : w_21 = up w 41 s (exF L x (w 41 o) (w 42 o)) := hw_21
          refine zA_aload_n dX2_layLast_104 rfl ?_
          refine zA_getR (n := 42) dX2_layLast_105 fX2_22 c39 rfl ?_
          refine zA_iload_n dX2_layLast_108 rfl ?_
          refine zA_iload dX2_layLast_109 rfl ?_
          refine zA_iastore dX2_layLast_111 (by first | assumption | exact hr _ _ | exact inR_mk (by omega) (by omega)) c42 (by first | assumption | omega) (by first | assumption | omega) (by decide) ?_
          refine zA_namew (fun w_22 hw_22 => ?_)
          refine zA_range (fun hr => ?_)
          replace hw_22 : w_22 = up w_21 42 s (exB L x (w 42 o)) := hw_22
          refine zA_vret dX2_layLast_112 rfl ?_
          exact ⟨rfl, rfl, Or.inl ⟨by omega, by rw [hw_22, hw_21]⟩⟩
        · skip
          refine zA_iload dX2_layLast_74 rfl ?_
          refine zA_aload_n dX2_layLast_76 rfl ?_
          refine zA_getR (n := 41) dX2_layLast_77 fX2_19 c39 rfl ?_
          refine zA_iload_n dX2_layLast_80 rfl ?_
          refine zA_iaload dX2_layLast_81 c41 (by first | assumption | omega) (by first | assumption | omega) (by decide) ?_
          refine zA_icmp_ne (tgt := 112) dX2_layLast_82 (by decide) (by first | assumption | exact hr _ _ | exact inR_mk (by omega) (by omega)) (by first | assumption | exact hr _ _ | exact inR_mk (by omega) (by omega)) (fun c82 => ?_) (fun c82 => ?_)
          · skip
            refine zA_vret dX2_layLast_112 rfl ?_
            exact ⟨rfl, rfl, Or.inr ⟨by omega, rfl⟩⟩
          · skip
            refine zA_iload dX2_layLast_85 rfl ?_
            refine zA_aload_n dX2_layLast_87 rfl ?_
            refine zA_getR (n := 42) dX2_layLast_88 fX2_22 c39 rfl ?_
            refine zA_iload_n dX2_layLast_91 rfl ?_
            refine zA_iaload dX2_layLast_92 c42 (by first | assumption | omega) (by first | assumption | omega) (by decide) ?_
            refine zA_icmp_ge (tgt := 112) dX2_layLast_93 (by decide) (by first | assumption | exact hr _ _ | exact inR_mk (by omega) (by omega)) (by first | assumption | exact hr _ _ | exact inR_mk (by omega) (by omega)) (fun c93 => ?_) (fun c93 => ?_)
            · skip
              refine zA_vret dX2_layLast_112 rfl ?_
              exact ⟨rfl, rfl, Or.inr ⟨by omega, rfl⟩⟩
            · skip
              refine zA_aload_n dX2_layLast_96 rfl ?_
              refine zA_getR (n := 41) dX2_layLast_97 fX2_19 c39 rfl ?_
              refine zA_iload_n dX2_layLast_100 rfl ?_
              refine zA_iload dX2_layLast_101 rfl ?_
              refine zA_iastore dX2_layLast_103 (by first | assumption | exact hr _ _ | exact inR_mk (by omega) (by omega)) c41 (by first | assumption | omega) (by first | assumption | omega) (by decide) ?_
              refine zA_namew (fun w_23 hw_23 => ?_)
              refine zA_range (fun hr => ?_)
              replace hw_23 : w_23 = up w 41 s (exF L x (w 41 o) (w 42 o)) := hw_23
              refine zA_aload_n dX2_layLast_104 rfl ?_
              refine zA_getR (n := 42) dX2_layLast_105 fX2_22 c39 rfl ?_
              refine zA_iload_n dX2_layLast_108 rfl ?_
              refine zA_iload dX2_layLast_109 rfl ?_
              refine zA_iastore dX2_layLast_111 (by first | assumption | exact hr _ _ | exact inR_mk (by omega) (by omega)) c42 (by first | assumption | omega) (by first | assumption | omega) (by decide) ?_
              refine zA_namew (fun w_24 hw_24 => ?_)
              refine zA_range (fun hr => ?_)
              replace hw_24 : w_24 = up w_23 42 s (exB L x (w 42 o)) := hw_24
              refine zA_vret dX2_layLast_112 rfl ?_
              exact ⟨rfl, rfl, Or.inl ⟨by omega, by rw [hw_24, hw_23]⟩⟩
    · skip
      refine zA_aload_n dX2_layLast_25 rfl ?_
      refine zA_getR (n := 41) dX2_layLast_26 fX2_19 c39 rfl ?_
      refine zA_iload_n dX2_layLast_29 rfl ?_
      refine zA_iaload dX2_layLast_30 c41 (by first | assumption | omega) (by first | assumption | omega) (by decide) ?_
      refine zA_goto (tgt := 42) dX2_layLast_31 (by decide) ?_
      refine zA_valI (exF L x (w 41 o) (w 42 o)) (by unfold exF; first | rw [if_pos (by omega)] | rw [if_neg (by omega)]) ?_
      have hef : 0 ≤ exF L x (w 41 o) (w 42 o) ∧ exF L x (w 41 o) (w 42 o) ≤ 11 := by unfold exF; split <;> omega
      refine zA_istore (lo1 := [zR 39, zI s, zI o, zI x, zI L, zI 1, zI (exF L x (w 41 o) (w 42 o)), .null]) dX2_layLast_42 (by decide) rfl rfl ?_
      refine zA_iload dX2_layLast_44 rfl ?_
      refine zA_if_eq (tgt := 60) dX2_layLast_46 (by decide) ⟨by decide, by decide⟩ (fun c46 => ?_) (fun c46 => ?_)
      · skip
        refine zA_iload_n dX2_layLast_60 rfl ?_
        refine zA_valI (exB L x (w 42 o)) (by unfold exB; first | rw [if_pos (by omega)] | rw [if_neg (by omega)]) ?_
        have heb : 0 ≤ exB L x (w 42 o) ∧ exB L x (w 42 o) ≤ L := by unfold exB; split <;> omega
        refine zA_istore (lo1 := [zR 39, zI s, zI o, zI x, zI L, zI 1, zI (exF L x (w 41 o) (w 42 o)), zI (exB L x (w 42 o))]) dX2_layLast_61 (by decide) rfl rfl ?_
        refine zA_iload dX2_layLast_63 rfl ?_
        refine zA_aload_n dX2_layLast_65 rfl ?_
        refine zA_getR (n := 41) dX2_layLast_66 fX2_19 c39 rfl ?_
        refine zA_iload_n dX2_layLast_69 rfl ?_
        refine zA_iaload dX2_layLast_70 c41 (by first | assumption | omega) (by first | assumption | omega) (by decide) ?_
        refine zA_icmp_lt (tgt := 96) dX2_layLast_71 (by decide) (by first | assumption | exact hr _ _ | exact inR_mk (by omega) (by omega)) (by first | assumption | exact hr _ _ | exact inR_mk (by omega) (by omega)) (fun c71 => ?_) (fun c71 => ?_)
        · skip
          refine zA_aload_n dX2_layLast_96 rfl ?_
          refine zA_getR (n := 41) dX2_layLast_97 fX2_19 c39 rfl ?_
          refine zA_iload_n dX2_layLast_100 rfl ?_
          refine zA_iload dX2_layLast_101 rfl ?_
          refine zA_iastore dX2_layLast_103 (by first | assumption | exact hr _ _ | exact inR_mk (by omega) (by omega)) c41 (by first | assumption | omega) (by first | assumption | omega) (by decide) ?_
          refine zA_namew (fun w_25 hw_25 => ?_)
          refine zA_range (fun hr => ?_)
          replace hw_25 : w_25 = up w 41 s (exF L x (w 41 o) (w 42 o)) := hw_25
          refine zA_aload_n dX2_layLast_104 rfl ?_
          refine zA_getR (n := 42) dX2_layLast_105 fX2_22 c39 rfl ?_
          refine zA_iload_n dX2_layLast_108 rfl ?_
          refine zA_iload dX2_layLast_109 rfl ?_
          refine zA_iastore dX2_layLast_111 (by first | assumption | exact hr _ _ | exact inR_mk (by omega) (by omega)) c42 (by first | assumption | omega) (by first | assumption | omega) (by decide) ?_
          refine zA_namew (fun w_26 hw_26 => ?_)
          refine zA_range (fun hr => ?_)
          replace hw_26 : w_26 = up w_25 42 s (exB L x (w 42 o)) := hw_26
          refine zA_vret dX2_layLast_112 rfl ?_
          exact ⟨rfl, rfl, Or.inl ⟨by omega, by rw [hw_26, hw_25]⟩⟩
        · skip
          refine zA_iload dX2_layLast_74 rfl ?_
          refine zA_aload_n dX2_layLast_76 rfl ?_
          refine zA_getR (n := 41) dX2_layLast_77 fX2_19 c39 rfl ?_
          refine zA_iload_n dX2_layLast_80 rfl ?_
          refine zA_iaload dX2_layLast_81 c41 (by first | assumption | omega) (by first | assumption | omega) (by decide) ?_
          refine zA_icmp_ne (tgt := 112) dX2_layLast_82 (by decide) (by first | assumption | exact hr _ _ | exact inR_mk (by omega) (by omega)) (by first | assumption | exact hr _ _ | exact inR_mk (by omega) (by omega)) (fun c82 => ?_) (fun c82 => ?_)
          · skip
            refine zA_vret dX2_layLast_112 rfl ?_
            exact ⟨rfl, rfl, Or.inr ⟨by omega, rfl⟩⟩
          · skip
            refine zA_iload dX2_layLast_85 rfl ?_
            refine zA_aload_n dX2_layLast_87 rfl ?_
            refine zA_getR (n := 42) dX2_layLast_88 fX2_22 c39 rfl ?_
            refine zA_iload_n dX2_layLast_91 rfl ?_
            refine zA_iaload dX2_layLast_92 c42 (by first | assumption | omega) (by first | assumption | omega) (by decide) ?_
            refine zA_icmp_ge (tgt := 112) dX2_layLast_93 (by decide) (by first | assumption | exact hr _ _ | exact inR_mk (by omega) (by omega)) (by first | assumption | exact hr _ _ | exact inR_mk (by omega) (by omega)) (fun c93 => ?_) (fun c93 => ?_)
            · skip
              refine zA_vret dX2_layLast_112 rfl ?_
              exact ⟨rfl, rfl, Or.inr ⟨by omega, rfl⟩⟩
            · skip
              refine zA_aload_n dX2_layLast_96 rfl ?_
              refine zA_getR (n := 41) dX2_layLast_97 fX2_19 c39 rfl ?_
              refine zA_iload_n dX2_layLast_100 rfl ?_
              refine zA_iload dX2_layLast_101 rfl ?_
              refine zA_iastore dX2_layLast_103 (by first | assumption | exact hr _ _ | exact inR_mk (by omega) (by omega)) c41 (by first | assumption | omega) (by first | assumption | omega) (by decide) ?_
              refine zA_namew (fun w_27 hw_27 => ?_)
              refine zA_range (fun hr => ?_)
              replace hw_27 : w_27 = up w 41 s (exF L x (w 41 o) (w 42 o)) := hw_27
              refine zA_aload_n dX2_layLast_104 rfl ?_
              refine zA_getR (n := 42) dX2_layLast_105 fX2_22 c39 rfl ?_
              refine zA_iload_n dX2_layLast_108 rfl ?_
              refine zA_iload dX2_layLast_109 rfl ?_
              refine zA_iastore dX2_layLast_111 (by first | assumption | exact hr _ _ | exact inR_mk (by omega) (by omega)) c42 (by first | assumption | omega) (by first | assumption | omega) (by decide) ?_
              refine zA_namew (fun w_28 hw_28 => ?_)
              refine zA_range (fun hr => ?_)
              replace hw_28 : w_28 = up w_27 42 s (exB L x (w 42 o)) := hw_28
              refine zA_vret dX2_layLast_112 rfl ?_
              exact ⟨rfl, rfl, Or.inl ⟨by omega, by rw [hw_28, hw_27]⟩⟩
      · skip
        refine zA_aload_n dX2_layLast_49 rfl ?_
        refine zA_getR (n := 42) dX2_layLast_50 fX2_22 c39 rfl ?_
        refine zA_iload_n dX2_layLast_53 rfl ?_
        refine zA_iaload dX2_layLast_54 c42 (by first | assumption | omega) (by first | assumption | omega) (by decide) ?_
        refine zA_iload_n dX2_layLast_55 rfl ?_
        refine zA_iadd dX2_layLast_56 ?_
        refine zA_goto (tgt := 61) dX2_layLast_57 (by decide) ?_
        refine zA_valI (exB L x (w 42 o)) (by unfold exB; first | rw [if_pos (by omega)] | rw [if_neg (by omega)]) ?_
        have heb : 0 ≤ exB L x (w 42 o) ∧ exB L x (w 42 o) ≤ L := by unfold exB; split <;> omega
        refine zA_istore (lo1 := [zR 39, zI s, zI o, zI x, zI L, zI 1, zI (exF L x (w 41 o) (w 42 o)), zI (exB L x (w 42 o))]) dX2_layLast_61 (by decide) rfl rfl ?_
        refine zA_iload dX2_layLast_63 rfl ?_
        refine zA_aload_n dX2_layLast_65 rfl ?_
        refine zA_getR (n := 41) dX2_layLast_66 fX2_19 c39 rfl ?_
        refine zA_iload_n dX2_layLast_69 rfl ?_
        refine zA_iaload dX2_layLast_70 c41 (by first | assumption | omega) (by first | assumption | omega) (by decide) ?_
        refine zA_icmp_lt (tgt := 96) dX2_layLast_71 (by decide) (by first | assumption | exact hr _ _ | exact inR_mk (by omega) (by omega)) (by first | assumption | exact hr _ _ | exact inR_mk (by omega) (by omega)) (fun c71 => ?_) (fun c71 => ?_)
        · skip
          refine zA_aload_n dX2_layLast_96 rfl ?_
          refine zA_getR (n := 41) dX2_layLast_97 fX2_19 c39 rfl ?_
          refine zA_iload_n dX2_layLast_100 rfl ?_
          refine zA_iload dX2_layLast_101 rfl ?_
          refine zA_iastore dX2_layLast_103 (by first | assumption | exact hr _ _ | exact inR_mk (by omega) (by omega)) c41 (by first | assumption | omega) (by first | assumption | omega) (by decide) ?_
          refine zA_namew (fun w_29 hw_29 => ?_)
          refine zA_range (fun hr => ?_)
          replace hw_29 : w_29 = up w 41 s (exF L x (w 41 o) (w 42 o)) := hw_29
          refine zA_aload_n dX2_layLast_104 rfl ?_
          refine zA_getR (n := 42) dX2_layLast_105 fX2_22 c39 rfl ?_
          refine zA_iload_n dX2_layLast_108 rfl ?_
          refine zA_iload dX2_layLast_109 rfl ?_
          refine zA_iastore dX2_layLast_111 (by first | assumption | exact hr _ _ | exact inR_mk (by omega) (by omega)) c42 (by first | assumption | omega) (by first | assumption | omega) (by decide) ?_
          refine zA_namew (fun w_30 hw_30 => ?_)
          refine zA_range (fun hr => ?_)
          replace hw_30 : w_30 = up w_29 42 s (exB L x (w 42 o)) := hw_30
          refine zA_vret dX2_layLast_112 rfl ?_
          exact ⟨rfl, rfl, Or.inl ⟨by omega, by rw [hw_30, hw_29]⟩⟩
        · skip
          refine zA_iload dX2_layLast_74 rfl ?_
          refine zA_aload_n dX2_layLast_76 rfl ?_
          refine zA_getR (n := 41) dX2_layLast_77 fX2_19 c39 rfl ?_
          refine zA_iload_n dX2_layLast_80 rfl ?_
          refine zA_iaload dX2_layLast_81 c41 (by first | assumption | omega) (by first | assumption | omega) (by decide) ?_
          refine zA_icmp_ne (tgt := 112) dX2_layLast_82 (by decide) (by first | assumption | exact hr _ _ | exact inR_mk (by omega) (by omega)) (by first | assumption | exact hr _ _ | exact inR_mk (by omega) (by omega)) (fun c82 => ?_) (fun c82 => ?_)
          · skip
            refine zA_vret dX2_layLast_112 rfl ?_
            exact ⟨rfl, rfl, Or.inr ⟨by omega, rfl⟩⟩
          · skip
            refine zA_iload dX2_layLast_85 rfl ?_
            refine zA_aload_n dX2_layLast_87 rfl ?_
            refine zA_getR (n := 42) dX2_layLast_88 fX2_22 c39 rfl ?_
            refine zA_iload_n dX2_layLast_91 rfl ?_
            refine zA_iaload dX2_layLast_92 c42 (by first | assumption | omega) (by first | assumption | omega) (by decide) ?_
            refine zA_icmp_ge (tgt := 112) dX2_layLast_93 (by decide) (by first | assumption | exact hr _ _ | exact inR_mk (by omega) (by omega)) (by first | assumption | exact hr _ _ | exact inR_mk (by omega) (by omega)) (fun c93 => ?_) (fun c93 => ?_)
            · skip
              refine zA_vret dX2_layLast_112 rfl ?_
              exact ⟨rfl, rfl, Or.inr ⟨by omega, rfl⟩⟩
            · skip
              refine zA_aload_n dX2_layLast_96 rfl ?_
              refine zA_getR (n := 41) dX2_layLast_97 fX2_19 c39 rfl ?_
              refine zA_iload_n dX2_layLast_100 rfl ?_
              refine zA_iload dX2_layLast_101 rfl ?_
              refine zA_iastore dX2_layLast_103 (by first | assumption | exact hr _ _ | exact inR_mk (by omega) (by omega)) c41 (by first | assumption | omega) (by first | assumption | omega) (by decide) ?_
              refine zA_namew (fun w_31 hw_31 => ?_)
              refine zA_range (fun hr => ?_)
              replace hw_31 : w_31 = up w 41 s (exF L x (w 41 o) (w 42 o)) := hw_31
              refine zA_aload_n dX2_layLast_104 rfl ?_
              refine zA_getR (n := 42) dX2_layLast_105 fX2_22 c39 rfl ?_
              refine zA_iload_n dX2_layLast_108 rfl ?_
              refine zA_iload dX2_layLast_109 rfl ?_
              refine zA_iastore dX2_layLast_111 (by first | assumption | exact hr _ _ | exact inR_mk (by omega) (by omega)) c42 (by first | assumption | omega) (by first | assumption | omega) (by decide) ?_
              refine zA_namew (fun w_32 hw_32 => ?_)
              refine zA_range (fun hr => ?_)
              replace hw_32 : w_32 = up w_31 42 s (exB L x (w 42 o)) := hw_32
              refine zA_vret dX2_layLast_112 rfl ?_
              exact ⟨rfl, rfl, Or.inl ⟨by omega, by rw [hw_32, hw_31]⟩⟩

