/-! p1: the screen of an empty text; the first drawing of the class; its other answers on a fresh object -/
theorem y_T_isBeginning {σ : pe_H} {p : Int} (hB : pe_B σ) (hp : p = 0) (hl : σ 3 1 = 0) : pe_M m_T_isBeginning [pe_r 3, pe_i p] σ (pe_qp σ (fun z => z = 1)) := by
  refine pe_in0 (lv := [some (pe_r 3), some (pe_i p), none]) ?_
  have hB0 := hB
  refine pe_aload_n d_T_isBeginning_0 rfl ?_
  refine pe_iload_n d_T_isBeginning_1 rfl ?_
  refine pe_v1p d_T_isBeginning_2 c_T_25 i_T_codeAt s_T_codeAt rfl rfl (t_T_codeAt hB (by first | exact hB _ _ | exact hB0 _ _ | exact hBt _ _ | exact ⟨by omega, by omega⟩) (by omega)) (fun z2 hz2 => ?_)
  rw [if_neg (by omega)] at hz2
  refine pe_s1p d_T_isBeginning_5 c_T_29 z_C_isMark (t_C_isMark (by first | exact hB _ _ | exact hB0 _ _ | exact hBt _ _ | exact ⟨by omega, by omega⟩)) (fun z5 hz5 => ?_)
  refine pe_if_ne (t := 13) d_T_isBeginning_8 (by first | exact hB _ _ | exact hB0 _ _ | exact hBt _ _ | exact ⟨by omega, by omega⟩) (fun h8 => ?_) (fun h8 => ?_)
  · skip
    exfalso; omega
  · skip
    refine pe_iconst d_T_isBeginning_11 ?_
    refine pe_rz d_T_isBeginning_12 (by first | exact Or.inl rfl | exact Or.inr rfl | omega) ?_
    exact ⟨rfl, rfl⟩
theorem y_T_clusterAt {σ : pe_H} {p : Int} (hB : pe_B σ) (hp : p = 0) (hl : σ 3 1 = 0) : pe_M m_T_clusterAt [pe_r 3, pe_i p] σ (pe_qp σ (fun z => z = 32)) := by
  refine pe_in0 (lv := [some (pe_r 3), some (pe_i p), none, none, none, none]) ?_
  have hB0 := hB
  refine pe_aload_n d_T_clusterAt_0 rfl ?_
  refine pe_iload_n d_T_clusterAt_1 rfl ?_
  refine pe_v1p d_T_clusterAt_2 c_T_25 i_T_codeAt s_T_codeAt rfl rfl (t_T_codeAt hB (by first | exact hB _ _ | exact hB0 _ _ | exact hBt _ _ | exact ⟨by omega, by omega⟩) (by omega)) (fun z2 hz2 => ?_)
  rw [if_neg (by omega)] at hz2
  refine pe_istore_n d_T_clusterAt_5 ?_
  refine pe_iload_n d_T_clusterAt_6 rfl ?_
  refine pe_bipush d_T_clusterAt_7 ?_
  refine pe_icmp_ge (t := 15) d_T_clusterAt_9 (by first | exact hB _ _ | exact hB0 _ _ | exact hBt _ _ | exact ⟨by omega, by omega⟩) (by first | exact hB _ _ | exact hB0 _ _ | exact hBt _ _ | exact ⟨by omega, by omega⟩) (fun h9 => ?_) (fun h9 => ?_)
  · skip
    exfalso; omega
  · skip
    refine pe_bipush d_T_clusterAt_12 ?_
    refine pe_ri d_T_clusterAt_14 ?_
    exact ⟨rfl, rfl⟩
theorem y_E_isBetween {σ : pe_H} {k : Int} (hB : pe_B σ) (hk : pe_R k) (hm : σ 2 8 = -1) : pe_M m_E_isBetween [pe_r 2, pe_i k] σ (pe_qp σ (fun z => z = 0)) := by
  refine pe_in0 (lv := [some (pe_r 2), some (pe_i k)]) ?_
  have hB0 := hB
  refine pe_aload_n d_E_isBetween_0 rfl ?_
  refine pe_geti f_E_39 d_E_isBetween_1 rfl rfl 8 rfl ?_
  refine pe_iconst d_E_isBetween_4 ?_
  refine pe_icmp_eq (t := 42) d_E_isBetween_5 (by first | exact hB _ _ | exact hB0 _ _ | exact hBt _ _ | exact ⟨by omega, by omega⟩) (by first | exact hB _ _ | exact hB0 _ _ | exact hBt _ _ | exact ⟨by omega, by omega⟩) (fun h5 => ?_) (fun h5 => ?_)
  · skip
    refine pe_iconst d_E_isBetween_42 ?_
    refine pe_rz d_E_isBetween_43 (by first | exact Or.inl rfl | exact Or.inr rfl | omega) ?_
    exact ⟨rfl, rfl⟩
  · skip
    exfalso; omega
theorem y_L_lay {σ : pe_H} {c : Int} (hB : pe_B σ) (hl : σ 3 1 = 0) (hc : 4 ≤ c ∧ c ≤ 24) : pe_M m_L_lay [pe_r 11, pe_r 3, pe_i c] σ (pe_qv (fun σ' => pe_B σ' ∧ (∀ b, b ∉ [12, 13, 14] → σ' b = σ b) ∧ σ' 12 0 = 0 ∧ σ' 13 0 = 0 ∧ σ' 14 0 = 1)) := by
  refine pe_in0 (lv := [some (pe_r 11), some (pe_r 3), some (pe_i c), none, none, none, none, none]) ?_
  have hB0 := hB
  have J8 : ∀ x : Int × Int × Int × pe_H, (pe_B x.2.2.2 ∧ (∀ b, b ∉ [12, 13, 14] → x.2.2.2 b = σ b) ∧ ((x.2.2.1 = 0 ∧ x.1 = 0 ∧ x.2.1 = 0) ∨ (x.2.2.1 = 1 ∧ x.2.2.2 12 0 = 0 ∧ x.2.2.2 13 0 = 0 ∧ x.2.2.2 14 0 = 1 ∧ 0 ≤ x.1 ∧ x.1 ≤ 5 ∧ 0 ≤ x.2.1 ∧ x.2.1 ≤ 50))) → pe_G m_L_lay 8 [some (pe_r 11), some (pe_r 3), some (pe_i c), some (pe_i x.1), some (pe_i x.2.1), some (pe_i x.2.2.1), none, none] [] x.2.2.2 (pe_qv (fun σ' => pe_B σ' ∧ (∀ b, b ∉ [12, 13, 14] → σ' b = σ b) ∧ σ' 12 0 = 0 ∧ σ' 13 0 = 0 ∧ σ' 14 0 = 1)) := by
    refine pe_loop (fun x : Int × Int × Int × pe_H => (10 - x.2.2.1).toNat) _ _ ?_
    intro x hI ih
    obtain ⟨r, q, p, τ⟩ := x
    dsimp only at hI ⊢
    obtain ⟨hB, hfr, hX⟩ := hI
    have v_3_1 : τ 3 1 = σ 3 1 := congrFun (hfr 3 (by decide)) 1
    have hBt := hB
    refine pe_iload d_L_lay_8 rfl ?_
    refine pe_aload_n d_L_lay_10 rfl ?_
    refine pe_geti f_L_21 d_L_lay_11 rfl rfl 1 rfl ?_
    refine pe_icmp_gt (t := 144) d_L_lay_14 (by first | exact hB _ _ | exact hB0 _ _ | exact hBt _ _ | exact ⟨by omega, by omega⟩) (by first | exact hB _ _ | exact hB0 _ _ | exact hBt _ _ | exact ⟨by omega, by omega⟩) (fun h14 => ?_) (fun h14 => ?_)
    · skip
      refine pe_rv d_L_lay_144 ?_
      exact ⟨hB, (fun b hb => hfr b (by simp at hb ⊢; try omega)), by omega⟩
    · skip
      have hp0 : p = 0 := by omega
      refine pe_aload_n d_L_lay_17 rfl ?_
      refine pe_getr f_L_9 d_L_lay_18 rfl rfl ?_
      refine pe_iload d_L_lay_21 rfl ?_
      refine pe_iconst d_L_lay_23 ?_
      refine pe_iastT d_L_lay_24 rfl (by omega) (by omega) hB (by first | exact hB _ _ | exact hB0 _ _ | exact hBt _ _ | exact ⟨by omega, by omega⟩) (fun σ24 hB e24 o24 f24 => ?_)
      try have u24_0 : σ24 3 1 = τ 3 1 := by first | exact o24 1 (by decide) | exact congrFun (f24 3 (by decide)) 1
      refine pe_aload_n d_L_lay_25 rfl ?_
      refine pe_iload d_L_lay_26 rfl ?_
      refine pe_v1p d_L_lay_28 c_L_27 i_T_isBeginning s_T_isBeginning rfl rfl (y_T_isBeginning hB (by omega) (by omega)) (fun z28 hz28 => ?_)
      refine pe_if_ne (t := 37) d_L_lay_31 (by first | exact hB _ _ | exact hB0 _ _ | exact hBt _ _ | exact ⟨by omega, by omega⟩) (fun h31 => ?_) (fun h31 => ?_)
      · skip
        refine pe_aload_n d_L_lay_37 rfl ?_
        refine pe_iload d_L_lay_38 rfl ?_
        refine pe_v1p d_L_lay_40 c_L_31 i_T_codeAt s_T_codeAt rfl rfl (t_T_codeAt hB (by first | exact hB _ _ | exact hB0 _ _ | exact hBt _ _ | exact ⟨by omega, by omega⟩) (by omega)) (fun z40 hz40 => ?_)
        rw [if_neg (by omega)] at hz40
        refine pe_istore d_L_lay_43 ?_
        refine pe_iload d_L_lay_45 rfl ?_
        refine pe_s1p d_L_lay_47 c_L_35 z_C_widthOf (t_C_widthOf (by first | exact hB _ _ | exact hB0 _ _ | exact hBt _ _ | exact ⟨by omega, by omega⟩)) (fun z47 hz47 => ?_)
        refine pe_istore d_L_lay_50 ?_
        refine pe_iload d_L_lay_52 rfl ?_
        refine pe_iload d_L_lay_54 rfl ?_
        refine pe_iadd d_L_lay_56 ?_
        refine pe_iload_n d_L_lay_57 rfl ?_
        refine pe_icmp_le (t := 67) d_L_lay_58 (by first | exact hB _ _ | exact hB0 _ _ | exact hBt _ _ | exact ⟨by omega, by omega⟩) (by first | exact hB _ _ | exact hB0 _ _ | exact hBt _ _ | exact ⟨by omega, by omega⟩) (fun h58 => ?_) (fun h58 => ?_)
        · skip
          refine pe_iload d_L_lay_67 rfl ?_
          refine pe_bipush d_L_lay_69 ?_
          refine pe_icmp_ne (t := 92) d_L_lay_71 (by first | exact hB _ _ | exact hB0 _ _ | exact hBt _ _ | exact ⟨by omega, by omega⟩) (by first | exact hB _ _ | exact hB0 _ _ | exact hBt _ _ | exact ⟨by omega, by omega⟩) (fun h71 => ?_) (fun h71 => ?_)
          · skip
            refine pe_aload_n d_L_lay_92 rfl ?_
            refine pe_getr f_L_9 d_L_lay_93 rfl rfl ?_
            refine pe_iload d_L_lay_96 rfl ?_
            refine pe_iload_n d_L_lay_98 rfl ?_
            refine pe_iastT d_L_lay_99 rfl (by omega) (by omega) hB (by first | exact hB _ _ | exact hB0 _ _ | exact hBt _ _ | exact ⟨by omega, by omega⟩) (fun σ99 hB e99 o99 f99 => ?_)
            try have u99_0 : σ99 3 1 = σ24 3 1 := by first | exact o99 1 (by decide) | exact congrFun (f99 3 (by decide)) 1
            refine pe_aload_n d_L_lay_100 rfl ?_
            refine pe_getr f_L_15 d_L_lay_101 rfl rfl ?_
            refine pe_iload d_L_lay_104 rfl ?_
            refine pe_iload d_L_lay_106 rfl ?_
            refine pe_iastT d_L_lay_108 rfl (by omega) (by omega) hB (by first | exact hB _ _ | exact hB0 _ _ | exact hBt _ _ | exact ⟨by omega, by omega⟩) (fun σ108 hB e108 o108 f108 => ?_)
            try have u108_0 : σ108 3 1 = σ99 3 1 := by first | exact o108 1 (by decide) | exact congrFun (f108 3 (by decide)) 1
            refine pe_aload_n d_L_lay_109 rfl ?_
            refine pe_getr f_L_18 d_L_lay_110 rfl rfl ?_
            refine pe_iload d_L_lay_113 rfl ?_
            refine pe_iload d_L_lay_115 rfl ?_
            refine pe_iastT d_L_lay_117 rfl (by omega) (by omega) hB (by first | exact hB _ _ | exact hB0 _ _ | exact hBt _ _ | exact ⟨by omega, by omega⟩) (fun σ117 hB e117 o117 f117 => ?_)
            try have u117_0 : σ117 3 1 = σ108 3 1 := by first | exact o117 1 (by decide) | exact congrFun (f117 3 (by decide)) 1
            refine pe_iload d_L_lay_118 rfl ?_
            refine pe_iload d_L_lay_120 rfl ?_
            refine pe_iadd d_L_lay_122 ?_
            refine pe_istore d_L_lay_123 ?_
            refine pe_iload d_L_lay_125 rfl ?_
            refine pe_bipush d_L_lay_127 ?_
            refine pe_icmp_ne (t := 138) d_L_lay_129 (by first | exact hB _ _ | exact hB0 _ _ | exact hBt _ _ | exact ⟨by omega, by omega⟩) (by first | exact hB _ _ | exact hB0 _ _ | exact hBt _ _ | exact ⟨by omega, by omega⟩) (fun h129 => ?_) (fun h129 => ?_)
            · skip
              refine pe_iinc d_L_lay_138 rfl ?_
              refine pe_goto (t := 8) d_L_lay_141 ?_
              refine pe_drop 6 (pe_drop 7 ?_)
              first | (exfalso; omega) | exact ih (_, _, _, _) ⟨hB, (fun b hb => (f117 b (by simp at hb ⊢; try omega)).trans ((f108 b (by simp at hb ⊢; try omega)).trans ((f99 b (by simp at hb ⊢; try omega)).trans ((f24 b (by simp at hb ⊢; try omega)).trans (hfr b (by simp at hb ⊢; try omega)))))), by (try dsimp only); rw [hp0] at e99 e108 e117; have a1 := congrFun (f117 12 (by decide)) 0; have a2 := congrFun (f108 12 (by decide)) 0; have a3 := congrFun (f117 13 (by decide)) 0; omega⟩ (by (try dsimp only); omega)
            · skip
              exfalso; omega
          · skip
            exfalso; omega
        · skip
          exfalso; omega
      · skip
        exfalso; omega
  refine pe_iconst d_L_lay_0 ?_
  refine pe_istore_n d_L_lay_1 ?_
  refine pe_iconst d_L_lay_2 ?_
  refine pe_istore d_L_lay_3 ?_
  refine pe_iconst d_L_lay_5 ?_
  refine pe_istore d_L_lay_6 ?_
  exact J8 (_, _, _, _) ⟨hB, (fun b hb => rfl), by (try dsimp only); omega⟩
theorem y_S_follow {σ : pe_H} {r : Int} (hB : pe_B σ) (hw : 1 ≤ σ 18 2 ∧ σ 18 2 ≤ 24 ∧ 1 ≤ σ 18 3 ∧ σ 18 3 ≤ 8) (h2 : 2 ≤ σ 18 3) (hr : r = 0) (ht : σ 17 2 = 0) : pe_M m_S_follow [pe_r 17, pe_i r] σ (pe_qv (fun σ' => pe_B σ' ∧ (∀ b, b ∉ [17] → σ' b = σ b) ∧ σ' 17 2 = 0 ∧ σ' 17 3 = 0 ∧ σ' 17 4 = σ 17 4)) := by
  refine pe_in0 (lv := [some (pe_r 17), some (pe_i r)]) ?_
  have hB0 := hB
  refine pe_iload_n d_S_follow_0 rfl ?_
  refine pe_aload_n d_S_follow_1 rfl ?_
  refine pe_geti f_S_86 d_S_follow_2 rfl rfl 2 rfl ?_
  refine pe_icmp_ge (t := 16) d_S_follow_5 (by first | exact hB _ _ | exact hB0 _ _ | exact hBt _ _ | exact ⟨by omega, by omega⟩) (by first | exact hB _ _ | exact hB0 _ _ | exact hBt _ _ | exact ⟨by omega, by omega⟩) (fun h5 => ?_) (fun h5 => ?_)
  · skip
    refine pe_iload_n d_S_follow_16 rfl ?_
    refine pe_aload_n d_S_follow_17 rfl ?_
    refine pe_geti f_S_86 d_S_follow_18 rfl rfl 2 rfl ?_
    refine pe_aload_n d_S_follow_21 rfl ?_
    refine pe_getr f_S_23 d_S_follow_22 rfl rfl ?_
    refine pe_geti f_S_40 d_S_follow_25 rfl rfl 3 rfl ?_
    refine pe_iadd d_S_follow_28 ?_
    refine pe_iconst d_S_follow_29 ?_
    refine pe_isub d_S_follow_30 ?_
    refine pe_icmp_lt (t := 49) d_S_follow_31 (by first | exact hB _ _ | exact hB0 _ _ | exact hBt _ _ | exact ⟨by omega, by omega⟩) (by first | exact hB _ _ | exact hB0 _ _ | exact hBt _ _ | exact ⟨by omega, by omega⟩) (fun h31 => ?_) (fun h31 => ?_)
    · skip
      refine pe_aload_n d_S_follow_49 rfl ?_
      refine pe_iload_n d_S_follow_50 rfl ?_
      refine pe_aload_n d_S_follow_51 rfl ?_
      refine pe_geti f_S_86 d_S_follow_52 rfl rfl 2 rfl ?_
      refine pe_isub d_S_follow_55 ?_
      refine pe_putiT f_S_30 g_6_3 d_S_follow_56 rfl rfl 3 rfl hB (by first | exact hB _ _ | exact hB0 _ _ | exact hBt _ _ | exact ⟨by omega, by omega⟩) (fun σ56 hB e56 o56 f56 => ?_)
      try have u56_0 : σ56 2 7 = σ 2 7 := by first | exact o56 7 (by decide) | exact congrFun (f56 2 (by decide)) 7
      try have u56_1 : σ56 2 8 = σ 2 8 := by first | exact o56 8 (by decide) | exact congrFun (f56 2 (by decide)) 8
      try have u56_2 : σ56 2 11 = σ 2 11 := by first | exact o56 11 (by decide) | exact congrFun (f56 2 (by decide)) 11
      try have u56_3 : σ56 3 1 = σ 3 1 := by first | exact o56 1 (by decide) | exact congrFun (f56 3 (by decide)) 1
      try have u56_4 : σ56 17 2 = σ 17 2 := by first | exact o56 2 (by decide) | exact congrFun (f56 17 (by decide)) 2
      try have u56_5 : σ56 17 3 = σ 17 3 := by first | exact o56 3 (by decide) | exact congrFun (f56 17 (by decide)) 3
      try have u56_6 : σ56 17 4 = σ 17 4 := by first | exact o56 4 (by decide) | exact congrFun (f56 17 (by decide)) 4
      try have u56_7 : σ56 18 2 = σ 18 2 := by first | exact o56 2 (by decide) | exact congrFun (f56 18 (by decide)) 2
      try have u56_8 : σ56 18 3 = σ 18 3 := by first | exact o56 3 (by decide) | exact congrFun (f56 18 (by decide)) 3
      try have u56_9 : σ56 5 6 = σ 5 6 := by first | exact o56 6 (by decide) | exact congrFun (f56 5 (by decide)) 6
      try have u56_10 : σ56 21 1 = σ 21 1 := by first | exact o56 1 (by decide) | exact congrFun (f56 21 (by decide)) 1
      try have u56_11 : σ56 21 3 = σ 21 3 := by first | exact o56 3 (by decide) | exact congrFun (f56 21 (by decide)) 3
      refine pe_rv d_S_follow_59 ?_
      exact ⟨hB, (fun b hb => (f56 b (by simp at hb ⊢; try omega)).trans (rfl)), by omega⟩
    · skip
      exfalso; omega
  · skip
    exfalso; omega
theorem y_S_showCluster {σ : pe_H} {p : Int} (hB : pe_B σ) (hw : 1 ≤ σ 18 2 ∧ σ 18 2 ≤ 24 ∧ 1 ≤ σ 18 3 ∧ σ 18 3 ≤ 8) (h2 : 2 ≤ σ 18 3 ∧ 4 ≤ σ 18 2) (hp : p = 0) (hF : σ 3 1 = 0 ∧ σ 2 7 = 0 ∧ σ 2 8 = -1 ∧ σ 5 6 = 0) (ht : σ 17 2 = 0) (hy : σ 12 0 = 0 ∧ σ 13 0 = 0 ∧ σ 14 0 = 1) (hb : (∀ j, 0 ≤ j → j < 192 → σ 19 j = 32 ∧ σ 20 j = 0)) : pe_M m_S_showCluster [pe_r 17, pe_r 2, pe_i p] σ (pe_qv (fun σ' => pe_B σ' ∧ (∀ b, b ∉ [19, 20] → σ' b = σ b) ∧ (∀ j, 0 ≤ j → j < 192 → σ' 19 j = 32 ∧ σ' 20 j = 0))) := by
  refine pe_in0 (lv := [some (pe_r 17), some (pe_r 2), some (pe_i p), none, none, none, none, none, none, none]) ?_
  have hB0 := hB
  subst hp
  refine pe_aload_n d_S_showCluster_0 rfl ?_
  refine pe_getr f_S_43 d_S_showCluster_1 rfl rfl ?_
  refine pe_astore_n d_S_showCluster_4 ?_
  refine pe_aload_n d_S_showCluster_5 rfl ?_
  refine pe_getr f_S_59 d_S_showCluster_6 rfl rfl ?_
  refine pe_iload_n d_S_showCluster_9 rfl ?_
  refine pe_iald d_S_showCluster_10 rfl (by omega) (by omega) ?_
  refine pe_aload_n d_S_showCluster_11 rfl ?_
  refine pe_geti f_S_86 d_S_showCluster_12 rfl rfl 2 rfl ?_
  refine pe_isub d_S_showCluster_15 ?_
  refine pe_istore d_S_showCluster_16 ?_
  refine pe_aload_n d_S_showCluster_18 rfl ?_
  refine pe_getr f_S_59 d_S_showCluster_19 rfl rfl ?_
  refine pe_iload_n d_S_showCluster_22 rfl ?_
  refine pe_iald d_S_showCluster_23 rfl (by omega) (by omega) ?_
  refine pe_iconst d_S_showCluster_24 ?_
  refine pe_icmp_eq (t := 47) d_S_showCluster_25 (by first | exact hB _ _ | exact hB0 _ _ | exact hBt _ _ | exact ⟨by omega, by omega⟩) (by first | exact hB _ _ | exact hB0 _ _ | exact hBt _ _ | exact ⟨by omega, by omega⟩) (fun h25 => ?_) (fun h25 => ?_)
  · skip
    refine pe_rv d_S_showCluster_47 ?_
    first | (exfalso; omega) | exact ⟨hB, (fun b hb => rfl), fun j h1 h2 => by
      by_cases q : j = (σ 12 0 - σ 17 2) * 24 + σ 13 0
      · rw [q, x93.1.1, x93.1.2]; exact ⟨by omega, by omega⟩
      · have w := x93.2 j q; rw [w.1, w.2]; exact hb j h1 h2⟩
  · skip
    refine pe_iload d_S_showCluster_28 rfl ?_
    refine pe_if_lt (t := 47) d_S_showCluster_30 (by first | exact hB _ _ | exact hB0 _ _ | exact hBt _ _ | exact ⟨by omega, by omega⟩) (fun h30 => ?_) (fun h30 => ?_)
    · skip
      refine pe_rv d_S_showCluster_47 ?_
      first | (exfalso; omega) | exact ⟨hB, (fun b hb => rfl), fun j h1 h2 => by
        by_cases q : j = (σ 12 0 - σ 17 2) * 24 + σ 13 0
        · rw [q, x93.1.1, x93.1.2]; exact ⟨by omega, by omega⟩
        · have w := x93.2 j q; rw [w.1, w.2]; exact hb j h1 h2⟩
    · skip
      refine pe_iload d_S_showCluster_33 rfl ?_
      refine pe_aload_n d_S_showCluster_35 rfl ?_
      refine pe_getr f_S_23 d_S_showCluster_36 rfl rfl ?_
      refine pe_geti f_S_40 d_S_showCluster_39 rfl rfl 3 rfl ?_
      refine pe_iconst d_S_showCluster_42 ?_
      refine pe_isub d_S_showCluster_43 ?_
      refine pe_icmp_le (t := 48) d_S_showCluster_44 (by first | exact hB _ _ | exact hB0 _ _ | exact hBt _ _ | exact ⟨by omega, by omega⟩) (by first | exact hB _ _ | exact hB0 _ _ | exact hBt _ _ | exact ⟨by omega, by omega⟩) (fun h44 => ?_) (fun h44 => ?_)
      · skip
        refine pe_aload_n d_S_showCluster_48 rfl ?_
        refine pe_getr f_S_70 d_S_showCluster_49 rfl rfl ?_
        refine pe_iload_n d_S_showCluster_52 rfl ?_
        refine pe_iald d_S_showCluster_53 rfl (by omega) (by omega) ?_
        refine pe_istore d_S_showCluster_54 ?_
        refine pe_aload_n d_S_showCluster_56 rfl ?_
        refine pe_iload_n d_S_showCluster_57 rfl ?_
        refine pe_v1p d_S_showCluster_58 c_S_89 i_E_isBetween s_E_isBetween rfl rfl (y_E_isBetween hB (by first | exact hB _ _ | exact hB0 _ _ | exact hBt _ _ | exact ⟨by omega, by omega⟩) (by omega)) (fun z58 hz58 => ?_)
        refine pe_if_eq (t := 68) d_S_showCluster_61 (by first | exact hB _ _ | exact hB0 _ _ | exact hBt _ _ | exact ⟨by omega, by omega⟩) (fun h61 => ?_) (fun h61 => ?_)
        · skip
          refine pe_iconst d_S_showCluster_68 ?_
          refine pe_istore d_S_showCluster_69 ?_
          refine pe_aload_n d_S_showCluster_71 rfl ?_
          refine pe_getr f_S_49 d_S_showCluster_72 rfl rfl ?_
          refine pe_iload_n d_S_showCluster_75 rfl ?_
          refine pe_v1p d_S_showCluster_76 c_S_93 i_T_clusterAt s_T_clusterAt rfl rfl (y_T_clusterAt hB (by omega) (by omega)) (fun z76 hz76 => ?_)
          refine pe_istore d_S_showCluster_79 ?_
          refine pe_aload_n d_S_showCluster_81 rfl ?_
          refine pe_getr f_S_23 d_S_showCluster_82 rfl rfl ?_
          refine pe_iload d_S_showCluster_85 rfl ?_
          refine pe_iload d_S_showCluster_87 rfl ?_
          refine pe_iload d_S_showCluster_89 rfl ?_
          refine pe_iload d_S_showCluster_91 rfl ?_
          refine pe_v4v d_S_showCluster_93 c_S_97 i_G_put s_G_put rfl rfl (y_G_put_18 hB (by omega) (by omega) (by first | exact hB _ _ | exact hB0 _ _ | exact hBt _ _ | exact ⟨by omega, by omega⟩) (by first | exact hB _ _ | exact hB0 _ _ | exact hBt _ _ | exact ⟨by omega, by omega⟩)) (fun σ93 hz93 => ?_)
          obtain ⟨hB, f93, x93⟩ := hz93
          try have u93_0 : σ93 2 7 = σ 2 7 := by first | exact o93 7 (by decide) | exact congrFun (f93 2 (by decide)) 7
          try have u93_1 : σ93 2 8 = σ 2 8 := by first | exact o93 8 (by decide) | exact congrFun (f93 2 (by decide)) 8
          try have u93_2 : σ93 2 11 = σ 2 11 := by first | exact o93 11 (by decide) | exact congrFun (f93 2 (by decide)) 11
          try have u93_3 : σ93 3 1 = σ 3 1 := by first | exact o93 1 (by decide) | exact congrFun (f93 3 (by decide)) 1
          try have u93_4 : σ93 17 2 = σ 17 2 := by first | exact o93 2 (by decide) | exact congrFun (f93 17 (by decide)) 2
          try have u93_5 : σ93 17 3 = σ 17 3 := by first | exact o93 3 (by decide) | exact congrFun (f93 17 (by decide)) 3
          try have u93_6 : σ93 17 4 = σ 17 4 := by first | exact o93 4 (by decide) | exact congrFun (f93 17 (by decide)) 4
          try have u93_7 : σ93 18 2 = σ 18 2 := by first | exact o93 2 (by decide) | exact congrFun (f93 18 (by decide)) 2
          try have u93_8 : σ93 18 3 = σ 18 3 := by first | exact o93 3 (by decide) | exact congrFun (f93 18 (by decide)) 3
          try have u93_9 : σ93 5 6 = σ 5 6 := by first | exact o93 6 (by decide) | exact congrFun (f93 5 (by decide)) 6
          try have u93_10 : σ93 21 1 = σ 21 1 := by first | exact o93 1 (by decide) | exact congrFun (f93 21 (by decide)) 1
          try have u93_11 : σ93 21 3 = σ 21 3 := by first | exact o93 3 (by decide) | exact congrFun (f93 21 (by decide)) 3
          have g14 := f93 14 (by decide)
          have g140 := congrFun g14 0
          refine pe_iload d_S_showCluster_96 rfl ?_
          refine pe_bipush d_S_showCluster_98 ?_
          refine pe_icmp_ne (t := 108) d_S_showCluster_100 (by first | exact hB _ _ | exact hB0 _ _ | exact hBt _ _ | exact ⟨by omega, by omega⟩) (by first | exact hB _ _ | exact hB0 _ _ | exact hBt _ _ | exact ⟨by omega, by omega⟩) (fun h100 => ?_) (fun h100 => ?_)
          · skip
            exfalso; omega
          · skip
            refine pe_bipush d_S_showCluster_103 ?_
            refine pe_goto (t := 109) d_S_showCluster_105 ?_
            refine pe_istore d_S_showCluster_109 ?_
            refine pe_iconst d_S_showCluster_111 ?_
            refine pe_istore d_S_showCluster_112 ?_
            refine pe_iload d_S_showCluster_114 rfl ?_
            refine pe_aload_n d_S_showCluster_116 rfl ?_
            refine pe_getr f_S_101 d_S_showCluster_117 rfl rfl ?_
            refine pe_iload_n d_S_showCluster_120 rfl ?_
            refine pe_iald d_S_showCluster_121 rfl (by omega) (by omega) ?_
            refine pe_icmp_ge (t := 149) d_S_showCluster_122 (by first | exact hB _ _ | exact hB0 _ _ | exact hBt _ _ | exact ⟨by omega, by omega⟩) (by first | exact hB _ _ | exact hB0 _ _ | exact hBt _ _ | exact ⟨by omega, by omega⟩) (fun h122 => ?_) (fun h122 => ?_)
            · skip
              refine pe_rv d_S_showCluster_149 ?_
              first | (exfalso; omega) | exact ⟨hB, (fun b hb => (f93 b (by simp at hb ⊢; try omega)).trans (rfl)), fun j h1 h2 => by
                by_cases q : j = (σ 12 0 - σ 17 2) * 24 + σ 13 0
                · rw [q, x93.1.1, x93.1.2]; exact ⟨by omega, by omega⟩
                · have w := x93.2 j q; rw [w.1, w.2]; exact hb j h1 h2⟩
            · skip
              exfalso; omega
        · skip
          exfalso; omega
      · skip
        refine pe_rv d_S_showCluster_47 ?_
        first | (exfalso; omega) | exact ⟨hB, (fun b hb => rfl), fun j h1 h2 => by
          by_cases q : j = (σ 12 0 - σ 17 2) * 24 + σ 13 0
          · rw [q, x93.1.1, x93.1.2]; exact ⟨by omega, by omega⟩
          · have w := x93.2 j q; rw [w.1, w.2]; exact hb j h1 h2⟩
theorem y_S_compose {σ : pe_H} (hB : pe_B σ) (hF : σ 3 1 = 0 ∧ σ 2 7 = 0 ∧ σ 2 8 = -1 ∧ σ 5 6 = 0) (hw : 1 ≤ σ 18 2 ∧ σ 18 2 ≤ 24 ∧ 1 ≤ σ 18 3 ∧ σ 18 3 ≤ 8) (ht : σ 17 2 = 0) (hs : (σ 21 1 = 0 ∧ 0 ≤ σ 21 3 ∧ σ 21 3 ≤ 16)) : pe_M m_S_compose [pe_r 17, pe_r 2] σ (pe_qv (fun σ' => pe_B σ' ∧ (∀ b, b ∉ [12, 13, 14, 17, 19, 20, 21, 22] → σ' b = σ b) ∧ (σ' 17 3 = 0 ∧ σ' 17 4 = 0) ∧ ((σ 18 2 < 4 ∨ σ 18 3 < 2) → (∀ j, 0 ≤ j → j < 192 → σ' 19 j = 32 ∧ σ' 20 j = 0)) ∧ (¬ (σ 18 2 < 4 ∨ σ 18 3 < 2) → (∀ j, 0 ≤ j → j < σ 18 2 → (32 ≤ σ' 19 ((σ 18 3 - 1) * 24 + j) ∧ σ' 19 ((σ 18 3 - 1) * 24 + j) ≤ 126) ∧ σ' 20 ((σ 18 3 - 1) * 24 + j) = 1) ∧ ∀ j, 0 ≤ j → j < (σ 18 3 - 1) * 24 → σ' 19 j = 32 ∧ σ' 20 j = 0))) := by
  refine pe_in0 (lv := [some (pe_r 17), some (pe_r 2), none]) ?_
  have hB0 := hB
  have J92 : ∀ x : Int × pe_H, (pe_B x.2 ∧ (∀ b, b ∉ [12, 13, 14, 17, 19, 20] → x.2 b = σ b) ∧ ((∀ j, 0 ≤ j → j < 192 → x.2 19 j = 32 ∧ x.2 20 j = 0)) ∧ (x.2 12 0 = 0 ∧ x.2 13 0 = 0 ∧ x.2 14 0 = 1) ∧ (0 ≤ x.1 ∧ x.1 ≤ 1 ∧ 4 ≤ σ 18 2 ∧ 2 ≤ σ 18 3) ∧ (x.2 17 2 = 0 ∧ x.2 17 3 = 0 ∧ x.2 17 4 = 0)) → pe_G m_S_compose 92 [some (pe_r 17), some (pe_r 2), some (pe_i x.1)] [] x.2 (pe_qv (fun σ' => pe_B σ' ∧ (∀ b, b ∉ [12, 13, 14, 17, 19, 20, 21, 22] → σ' b = σ b) ∧ (σ' 17 3 = 0 ∧ σ' 17 4 = 0) ∧ ((σ 18 2 < 4 ∨ σ 18 3 < 2) → (∀ j, 0 ≤ j → j < 192 → σ' 19 j = 32 ∧ σ' 20 j = 0)) ∧ (¬ (σ 18 2 < 4 ∨ σ 18 3 < 2) → (∀ j, 0 ≤ j → j < σ 18 2 → (32 ≤ σ' 19 ((σ 18 3 - 1) * 24 + j) ∧ σ' 19 ((σ 18 3 - 1) * 24 + j) ≤ 126) ∧ σ' 20 ((σ 18 3 - 1) * 24 + j) = 1) ∧ ∀ j, 0 ≤ j → j < (σ 18 3 - 1) * 24 → σ' 19 j = 32 ∧ σ' 20 j = 0))) := by
    refine pe_loop (fun x : Int × pe_H => (9 - x.1).toNat) _ _ ?_
    intro x hI ih
    obtain ⟨i, τ⟩ := x
    dsimp only at hI ⊢
    obtain ⟨hB, hfr, hX⟩ := hI
    have v_2_7 : τ 2 7 = σ 2 7 := congrFun (hfr 2 (by decide)) 7
    have v_2_8 : τ 2 8 = σ 2 8 := congrFun (hfr 2 (by decide)) 8
    have v_3_1 : τ 3 1 = σ 3 1 := congrFun (hfr 3 (by decide)) 1
    have v_18_2 : τ 18 2 = σ 18 2 := congrFun (hfr 18 (by decide)) 2
    have v_18_3 : τ 18 3 = σ 18 3 := congrFun (hfr 18 (by decide)) 3
    have v_5_6 : τ 5 6 = σ 5 6 := congrFun (hfr 5 (by decide)) 6
    have v_21_1 : τ 21 1 = σ 21 1 := congrFun (hfr 21 (by decide)) 1
    have v_21_3 : τ 21 3 = σ 21 3 := congrFun (hfr 21 (by decide)) 3
    obtain ⟨hb, hy, hX⟩ := hX
    have hBt := hB
    refine pe_iload_n d_S_compose_92 rfl ?_
    refine pe_aload_n d_S_compose_93 rfl ?_
    refine pe_getr f_S_49 d_S_compose_94 rfl rfl ?_
    refine pe_geti f_S_73 d_S_compose_97 rfl rfl 1 rfl ?_
    refine pe_icmp_gt (t := 115) d_S_compose_100 (by first | exact hB _ _ | exact hB0 _ _ | exact hBt _ _ | exact ⟨by omega, by omega⟩) (by first | exact hB _ _ | exact hB0 _ _ | exact hBt _ _ | exact ⟨by omega, by omega⟩) (fun h100 => ?_) (fun h100 => ?_)
    · skip
      refine pe_aload_n d_S_compose_115 rfl ?_
      refine pe_aload_n d_S_compose_116 rfl ?_
      refine pe_v1v d_S_compose_117 c_S_82 i_S_showStatus s_S_showStatus rfl rfl (y_S_showStatus hB (by omega) (by omega) (by omega) (by omega)) (fun σ117 hz117 => ?_)
      obtain ⟨hB, f117, x117⟩ := hz117
      try have u117_0 : σ117 2 7 = τ 2 7 := by first | exact o117 7 (by decide) | exact congrFun (f117 2 (by decide)) 7
      try have u117_1 : σ117 2 8 = τ 2 8 := by first | exact o117 8 (by decide) | exact congrFun (f117 2 (by decide)) 8
      try have u117_2 : σ117 2 11 = τ 2 11 := by first | exact o117 11 (by decide) | exact congrFun (f117 2 (by decide)) 11
      try have u117_3 : σ117 3 1 = τ 3 1 := by first | exact o117 1 (by decide) | exact congrFun (f117 3 (by decide)) 1
      try have u117_4 : σ117 17 2 = τ 17 2 := by first | exact o117 2 (by decide) | exact congrFun (f117 17 (by decide)) 2
      try have u117_5 : σ117 17 3 = τ 17 3 := by first | exact o117 3 (by decide) | exact congrFun (f117 17 (by decide)) 3
      try have u117_6 : σ117 17 4 = τ 17 4 := by first | exact o117 4 (by decide) | exact congrFun (f117 17 (by decide)) 4
      try have u117_7 : σ117 18 2 = τ 18 2 := by first | exact o117 2 (by decide) | exact congrFun (f117 18 (by decide)) 2
      try have u117_8 : σ117 18 3 = τ 18 3 := by first | exact o117 3 (by decide) | exact congrFun (f117 18 (by decide)) 3
      try have u117_9 : σ117 5 6 = τ 5 6 := by first | exact o117 6 (by decide) | exact congrFun (f117 5 (by decide)) 6
      try have u117_10 : σ117 21 1 = τ 21 1 := by first | exact o117 1 (by decide) | exact congrFun (f117 21 (by decide)) 1
      try have u117_11 : σ117 21 3 = τ 21 3 := by first | exact o117 3 (by decide) | exact congrFun (f117 21 (by decide)) 3
      refine pe_rv d_S_compose_120 ?_
      exact ⟨hB, (fun b hb => (f117 b (by simp at hb ⊢; try omega)).trans (hfr b (by simp at hb ⊢; try omega))), by omega, fun h => absurd h (by omega), fun _ => ⟨by have q := x117.1; rw [v_18_2, v_18_3] at q; exact q, fun j h1 h2 => by have q := x117.2 j (by omega); rw [q.1, q.2]; exact hb j h1 (by omega)⟩⟩
    · skip
      refine pe_aload_n d_S_compose_103 rfl ?_
      refine pe_aload_n d_S_compose_104 rfl ?_
      refine pe_iload_n d_S_compose_105 rfl ?_
      refine pe_v2v d_S_compose_106 c_S_78 i_S_showCluster s_S_showCluster rfl rfl (y_S_showCluster hB (by omega) (by omega) (by omega) (by omega) (by omega) (by omega) hb) (fun σ106 hz106 => ?_)
      obtain ⟨hB, f106, x106⟩ := hz106
      try have u106_0 : σ106 2 7 = τ 2 7 := by first | exact o106 7 (by decide) | exact congrFun (f106 2 (by decide)) 7
      try have u106_1 : σ106 2 8 = τ 2 8 := by first | exact o106 8 (by decide) | exact congrFun (f106 2 (by decide)) 8
      try have u106_2 : σ106 2 11 = τ 2 11 := by first | exact o106 11 (by decide) | exact congrFun (f106 2 (by decide)) 11
      try have u106_3 : σ106 3 1 = τ 3 1 := by first | exact o106 1 (by decide) | exact congrFun (f106 3 (by decide)) 1
      try have u106_4 : σ106 17 2 = τ 17 2 := by first | exact o106 2 (by decide) | exact congrFun (f106 17 (by decide)) 2
      try have u106_5 : σ106 17 3 = τ 17 3 := by first | exact o106 3 (by decide) | exact congrFun (f106 17 (by decide)) 3
      try have u106_6 : σ106 17 4 = τ 17 4 := by first | exact o106 4 (by decide) | exact congrFun (f106 17 (by decide)) 4
      try have u106_7 : σ106 18 2 = τ 18 2 := by first | exact o106 2 (by decide) | exact congrFun (f106 18 (by decide)) 2
      try have u106_8 : σ106 18 3 = τ 18 3 := by first | exact o106 3 (by decide) | exact congrFun (f106 18 (by decide)) 3
      try have u106_9 : σ106 5 6 = τ 5 6 := by first | exact o106 6 (by decide) | exact congrFun (f106 5 (by decide)) 6
      try have u106_10 : σ106 21 1 = τ 21 1 := by first | exact o106 1 (by decide) | exact congrFun (f106 21 (by decide)) 1
      try have u106_11 : σ106 21 3 = τ 21 3 := by first | exact o106 3 (by decide) | exact congrFun (f106 21 (by decide)) 3
      refine pe_iinc d_S_compose_109 rfl ?_
      refine pe_goto (t := 92) d_S_compose_112 ?_
      exact ih (_, _) ⟨hB, (fun b hb => (f106 b (by simp at hb ⊢; try omega)).trans (hfr b (by simp at hb ⊢; try omega))), x106, by (try dsimp only); rw [f106 12 (by decide), f106 13 (by decide), f106 14 (by decide)]; exact hy, by (try dsimp only); omega⟩ (by (try dsimp only); omega)
  refine pe_aload_n d_S_compose_0 rfl ?_
  refine pe_getr f_S_23 d_S_compose_1 rfl rfl ?_
  refine pe_v0v d_S_compose_4 c_S_27 i_G_blankAll s_G_blankAll rfl rfl (x_G_blankAll_18 hB) (fun σ4 hz4 => ?_)
  obtain ⟨hB, f4, x4⟩ := hz4
  try have u4_0 : σ4 2 7 = σ 2 7 := by first | exact o4 7 (by decide) | exact congrFun (f4 2 (by decide)) 7
  try have u4_1 : σ4 2 8 = σ 2 8 := by first | exact o4 8 (by decide) | exact congrFun (f4 2 (by decide)) 8
  try have u4_2 : σ4 2 11 = σ 2 11 := by first | exact o4 11 (by decide) | exact congrFun (f4 2 (by decide)) 11
  try have u4_3 : σ4 3 1 = σ 3 1 := by first | exact o4 1 (by decide) | exact congrFun (f4 3 (by decide)) 1
  try have u4_4 : σ4 17 2 = σ 17 2 := by first | exact o4 2 (by decide) | exact congrFun (f4 17 (by decide)) 2
  try have u4_5 : σ4 17 3 = σ 17 3 := by first | exact o4 3 (by decide) | exact congrFun (f4 17 (by decide)) 3
  try have u4_6 : σ4 17 4 = σ 17 4 := by first | exact o4 4 (by decide) | exact congrFun (f4 17 (by decide)) 4
  try have u4_7 : σ4 18 2 = σ 18 2 := by first | exact o4 2 (by decide) | exact congrFun (f4 18 (by decide)) 2
  try have u4_8 : σ4 18 3 = σ 18 3 := by first | exact o4 3 (by decide) | exact congrFun (f4 18 (by decide)) 3
  try have u4_9 : σ4 5 6 = σ 5 6 := by first | exact o4 6 (by decide) | exact congrFun (f4 5 (by decide)) 6
  try have u4_10 : σ4 21 1 = σ 21 1 := by first | exact o4 1 (by decide) | exact congrFun (f4 21 (by decide)) 1
  try have u4_11 : σ4 21 3 = σ 21 3 := by first | exact o4 3 (by decide) | exact congrFun (f4 21 (by decide)) 3
  refine pe_aload_n d_S_compose_7 rfl ?_
  refine pe_iconst d_S_compose_8 ?_
  refine pe_putiT f_S_30 g_6_3 d_S_compose_9 rfl rfl 3 rfl hB (by first | exact hB _ _ | exact hB0 _ _ | exact hBt _ _ | exact ⟨by omega, by omega⟩) (fun σ9 hB e9 o9 f9 => ?_)
  try have u9_0 : σ9 2 7 = σ4 2 7 := by first | exact o9 7 (by decide) | exact congrFun (f9 2 (by decide)) 7
  try have u9_1 : σ9 2 8 = σ4 2 8 := by first | exact o9 8 (by decide) | exact congrFun (f9 2 (by decide)) 8
  try have u9_2 : σ9 2 11 = σ4 2 11 := by first | exact o9 11 (by decide) | exact congrFun (f9 2 (by decide)) 11
  try have u9_3 : σ9 3 1 = σ4 3 1 := by first | exact o9 1 (by decide) | exact congrFun (f9 3 (by decide)) 1
  try have u9_4 : σ9 17 2 = σ4 17 2 := by first | exact o9 2 (by decide) | exact congrFun (f9 17 (by decide)) 2
  try have u9_5 : σ9 17 3 = σ4 17 3 := by first | exact o9 3 (by decide) | exact congrFun (f9 17 (by decide)) 3
  try have u9_6 : σ9 17 4 = σ4 17 4 := by first | exact o9 4 (by decide) | exact congrFun (f9 17 (by decide)) 4
  try have u9_7 : σ9 18 2 = σ4 18 2 := by first | exact o9 2 (by decide) | exact congrFun (f9 18 (by decide)) 2
  try have u9_8 : σ9 18 3 = σ4 18 3 := by first | exact o9 3 (by decide) | exact congrFun (f9 18 (by decide)) 3
  try have u9_9 : σ9 5 6 = σ4 5 6 := by first | exact o9 6 (by decide) | exact congrFun (f9 5 (by decide)) 6
  try have u9_10 : σ9 21 1 = σ4 21 1 := by first | exact o9 1 (by decide) | exact congrFun (f9 21 (by decide)) 1
  try have u9_11 : σ9 21 3 = σ4 21 3 := by first | exact o9 3 (by decide) | exact congrFun (f9 21 (by decide)) 3
  refine pe_aload_n d_S_compose_12 rfl ?_
  refine pe_iconst d_S_compose_13 ?_
  refine pe_putiT f_S_34 g_6_4 d_S_compose_14 rfl rfl 4 rfl hB (by first | exact hB _ _ | exact hB0 _ _ | exact hBt _ _ | exact ⟨by omega, by omega⟩) (fun σ14 hB e14 o14 f14 => ?_)
  try have u14_0 : σ14 2 7 = σ9 2 7 := by first | exact o14 7 (by decide) | exact congrFun (f14 2 (by decide)) 7
  try have u14_1 : σ14 2 8 = σ9 2 8 := by first | exact o14 8 (by decide) | exact congrFun (f14 2 (by decide)) 8
  try have u14_2 : σ14 2 11 = σ9 2 11 := by first | exact o14 11 (by decide) | exact congrFun (f14 2 (by decide)) 11
  try have u14_3 : σ14 3 1 = σ9 3 1 := by first | exact o14 1 (by decide) | exact congrFun (f14 3 (by decide)) 1
  try have u14_4 : σ14 17 2 = σ9 17 2 := by first | exact o14 2 (by decide) | exact congrFun (f14 17 (by decide)) 2
  try have u14_5 : σ14 17 3 = σ9 17 3 := by first | exact o14 3 (by decide) | exact congrFun (f14 17 (by decide)) 3
  try have u14_6 : σ14 17 4 = σ9 17 4 := by first | exact o14 4 (by decide) | exact congrFun (f14 17 (by decide)) 4
  try have u14_7 : σ14 18 2 = σ9 18 2 := by first | exact o14 2 (by decide) | exact congrFun (f14 18 (by decide)) 2
  try have u14_8 : σ14 18 3 = σ9 18 3 := by first | exact o14 3 (by decide) | exact congrFun (f14 18 (by decide)) 3
  try have u14_9 : σ14 5 6 = σ9 5 6 := by first | exact o14 6 (by decide) | exact congrFun (f14 5 (by decide)) 6
  try have u14_10 : σ14 21 1 = σ9 21 1 := by first | exact o14 1 (by decide) | exact congrFun (f14 21 (by decide)) 1
  try have u14_11 : σ14 21 3 = σ9 21 3 := by first | exact o14 3 (by decide) | exact congrFun (f14 21 (by decide)) 3
  refine pe_aload_n d_S_compose_17 rfl ?_
  refine pe_getr f_S_23 d_S_compose_18 rfl rfl ?_
  refine pe_geti f_S_37 d_S_compose_21 rfl rfl 2 rfl ?_
  refine pe_iconst d_S_compose_24 ?_
  refine pe_icmp_lt (t := 39) d_S_compose_25 (by first | exact hB _ _ | exact hB0 _ _ | exact hBt _ _ | exact ⟨by omega, by omega⟩) (by first | exact hB _ _ | exact hB0 _ _ | exact hBt _ _ | exact ⟨by omega, by omega⟩) (fun h25 => ?_) (fun h25 => ?_)
  · skip
    refine pe_rv d_S_compose_39 ?_
    first | (exfalso; omega) | exact ⟨hB, (fun b hb => (f14 b (by simp at hb ⊢; try omega)).trans ((f9 b (by simp at hb ⊢; try omega)).trans ((f4 b (by simp at hb ⊢; try omega)).trans (rfl)))), by omega, fun _ => by (try dsimp only); rw [((f14 19 (by decide)).trans ((f9 19 (by decide)).trans (rfl))), ((f14 20 (by decide)).trans ((f9 20 (by decide)).trans (rfl)))]; exact x4, fun h => absurd (by omega) h⟩
  · skip
    refine pe_aload_n d_S_compose_28 rfl ?_
    refine pe_getr f_S_23 d_S_compose_29 rfl rfl ?_
    refine pe_geti f_S_40 d_S_compose_32 rfl rfl 3 rfl ?_
    refine pe_iconst d_S_compose_35 ?_
    refine pe_icmp_ge (t := 40) d_S_compose_36 (by first | exact hB _ _ | exact hB0 _ _ | exact hBt _ _ | exact ⟨by omega, by omega⟩) (by first | exact hB _ _ | exact hB0 _ _ | exact hBt _ _ | exact ⟨by omega, by omega⟩) (fun h36 => ?_) (fun h36 => ?_)
    · skip
      refine pe_aload_n d_S_compose_40 rfl ?_
      refine pe_getr f_S_43 d_S_compose_41 rfl rfl ?_
      refine pe_aload_n d_S_compose_44 rfl ?_
      refine pe_getr f_S_49 d_S_compose_45 rfl rfl ?_
      refine pe_aload_n d_S_compose_48 rfl ?_
      refine pe_getr f_S_23 d_S_compose_49 rfl rfl ?_
      refine pe_geti f_S_37 d_S_compose_52 rfl rfl 2 rfl ?_
      refine pe_v2v d_S_compose_55 c_S_53 i_L_lay s_L_lay rfl rfl (y_L_lay hB (by omega) (by omega)) (fun σ55 hz55 => ?_)
      obtain ⟨hB, f55, x55⟩ := hz55
      try have u55_0 : σ55 2 7 = σ14 2 7 := by first | exact o55 7 (by decide) | exact congrFun (f55 2 (by decide)) 7
      try have u55_1 : σ55 2 8 = σ14 2 8 := by first | exact o55 8 (by decide) | exact congrFun (f55 2 (by decide)) 8
      try have u55_2 : σ55 2 11 = σ14 2 11 := by first | exact o55 11 (by decide) | exact congrFun (f55 2 (by decide)) 11
      try have u55_3 : σ55 3 1 = σ14 3 1 := by first | exact o55 1 (by decide) | exact congrFun (f55 3 (by decide)) 1
      try have u55_4 : σ55 17 2 = σ14 17 2 := by first | exact o55 2 (by decide) | exact congrFun (f55 17 (by decide)) 2
      try have u55_5 : σ55 17 3 = σ14 17 3 := by first | exact o55 3 (by decide) | exact congrFun (f55 17 (by decide)) 3
      try have u55_6 : σ55 17 4 = σ14 17 4 := by first | exact o55 4 (by decide) | exact congrFun (f55 17 (by decide)) 4
      try have u55_7 : σ55 18 2 = σ14 18 2 := by first | exact o55 2 (by decide) | exact congrFun (f55 18 (by decide)) 2
      try have u55_8 : σ55 18 3 = σ14 18 3 := by first | exact o55 3 (by decide) | exact congrFun (f55 18 (by decide)) 3
      try have u55_9 : σ55 5 6 = σ14 5 6 := by first | exact o55 6 (by decide) | exact congrFun (f55 5 (by decide)) 6
      try have u55_10 : σ55 21 1 = σ14 21 1 := by first | exact o55 1 (by decide) | exact congrFun (f55 21 (by decide)) 1
      try have u55_11 : σ55 21 3 = σ14 21 3 := by first | exact o55 3 (by decide) | exact congrFun (f55 21 (by decide)) 3
      refine pe_aload_n d_S_compose_58 rfl ?_
      refine pe_aload_n d_S_compose_59 rfl ?_
      refine pe_getr f_S_43 d_S_compose_60 rfl rfl ?_
      refine pe_getr f_S_59 d_S_compose_63 rfl rfl ?_
      refine pe_aload_n d_S_compose_66 rfl ?_
      refine pe_geti f_S_63 d_S_compose_67 rfl rfl 7 rfl ?_
      refine pe_iald d_S_compose_70 rfl (by omega) (by omega) ?_
      have hc7 : σ55 2 7 = 0 := by omega
      refine pe_v1v d_S_compose_71 c_S_66 i_S_follow s_S_follow rfl rfl (y_S_follow hB (by omega) (by omega) (by rw [hc7]; exact x55.1) (by omega)) (fun σ71 hz71 => ?_)
      obtain ⟨hB, f71, x71⟩ := hz71
      try have u71_0 : σ71 2 7 = σ55 2 7 := by first | exact o71 7 (by decide) | exact congrFun (f71 2 (by decide)) 7
      try have u71_1 : σ71 2 8 = σ55 2 8 := by first | exact o71 8 (by decide) | exact congrFun (f71 2 (by decide)) 8
      try have u71_2 : σ71 2 11 = σ55 2 11 := by first | exact o71 11 (by decide) | exact congrFun (f71 2 (by decide)) 11
      try have u71_3 : σ71 3 1 = σ55 3 1 := by first | exact o71 1 (by decide) | exact congrFun (f71 3 (by decide)) 1
      try have u71_4 : σ71 17 2 = σ55 17 2 := by first | exact o71 2 (by decide) | exact congrFun (f71 17 (by decide)) 2
      try have u71_5 : σ71 17 3 = σ55 17 3 := by first | exact o71 3 (by decide) | exact congrFun (f71 17 (by decide)) 3
      try have u71_6 : σ71 17 4 = σ55 17 4 := by first | exact o71 4 (by decide) | exact congrFun (f71 17 (by decide)) 4
      try have u71_7 : σ71 18 2 = σ55 18 2 := by first | exact o71 2 (by decide) | exact congrFun (f71 18 (by decide)) 2
      try have u71_8 : σ71 18 3 = σ55 18 3 := by first | exact o71 3 (by decide) | exact congrFun (f71 18 (by decide)) 3
      try have u71_9 : σ71 5 6 = σ55 5 6 := by first | exact o71 6 (by decide) | exact congrFun (f71 5 (by decide)) 6
      try have u71_10 : σ71 21 1 = σ55 21 1 := by first | exact o71 1 (by decide) | exact congrFun (f71 21 (by decide)) 1
      try have u71_11 : σ71 21 3 = σ55 21 3 := by first | exact o71 3 (by decide) | exact congrFun (f71 21 (by decide)) 3
      refine pe_aload_n d_S_compose_74 rfl ?_
      refine pe_aload_n d_S_compose_75 rfl ?_
      refine pe_getr f_S_43 d_S_compose_76 rfl rfl ?_
      refine pe_getr f_S_70 d_S_compose_79 rfl rfl ?_
      refine pe_aload_n d_S_compose_82 rfl ?_
      refine pe_geti f_S_63 d_S_compose_83 rfl rfl 7 rfl ?_
      refine pe_iald d_S_compose_86 rfl (by omega) (by omega) ?_
      have hc8 : σ71 2 7 = 0 := by omega
      have q13 : σ71 13 (σ71 2 7) = 0 := by rw [hc8, f71 13 (by decide)]; exact x55.2.1
      refine pe_putiT f_S_34 g_6_4 d_S_compose_87 rfl rfl 4 rfl hB (by first | exact hB _ _ | exact hB0 _ _ | exact hBt _ _ | exact ⟨by omega, by omega⟩) (fun σ87 hB e87 o87 f87 => ?_)
      try have u87_0 : σ87 2 7 = σ71 2 7 := by first | exact o87 7 (by decide) | exact congrFun (f87 2 (by decide)) 7
      try have u87_1 : σ87 2 8 = σ71 2 8 := by first | exact o87 8 (by decide) | exact congrFun (f87 2 (by decide)) 8
      try have u87_2 : σ87 2 11 = σ71 2 11 := by first | exact o87 11 (by decide) | exact congrFun (f87 2 (by decide)) 11
      try have u87_3 : σ87 3 1 = σ71 3 1 := by first | exact o87 1 (by decide) | exact congrFun (f87 3 (by decide)) 1
      try have u87_4 : σ87 17 2 = σ71 17 2 := by first | exact o87 2 (by decide) | exact congrFun (f87 17 (by decide)) 2
      try have u87_5 : σ87 17 3 = σ71 17 3 := by first | exact o87 3 (by decide) | exact congrFun (f87 17 (by decide)) 3
      try have u87_6 : σ87 17 4 = σ71 17 4 := by first | exact o87 4 (by decide) | exact congrFun (f87 17 (by decide)) 4
      try have u87_7 : σ87 18 2 = σ71 18 2 := by first | exact o87 2 (by decide) | exact congrFun (f87 18 (by decide)) 2
      try have u87_8 : σ87 18 3 = σ71 18 3 := by first | exact o87 3 (by decide) | exact congrFun (f87 18 (by decide)) 3
      try have u87_9 : σ87 5 6 = σ71 5 6 := by first | exact o87 6 (by decide) | exact congrFun (f87 5 (by decide)) 6
      try have u87_10 : σ87 21 1 = σ71 21 1 := by first | exact o87 1 (by decide) | exact congrFun (f87 21 (by decide)) 1
      try have u87_11 : σ87 21 3 = σ71 21 3 := by first | exact o87 3 (by decide) | exact congrFun (f87 21 (by decide)) 3
      refine pe_iconst d_S_compose_90 ?_
      refine pe_istore_n d_S_compose_91 ?_
      exact J92 (_, _) ⟨hB, (fun b hb => (f87 b (by simp at hb ⊢; try omega)).trans ((f71 b (by simp at hb ⊢; try omega)).trans ((f55 b (by simp at hb ⊢; try omega)).trans ((f14 b (by simp at hb ⊢; try omega)).trans ((f9 b (by simp at hb ⊢; try omega)).trans ((f4 b (by simp at hb ⊢; try omega)).trans (rfl))))))), by (try dsimp only); rw [((f87 19 (by decide)).trans ((f71 19 (by decide)).trans ((f55 19 (by decide)).trans ((f14 19 (by decide)).trans ((f9 19 (by decide)).trans (rfl)))))), ((f87 20 (by decide)).trans ((f71 20 (by decide)).trans ((f55 20 (by decide)).trans ((f14 20 (by decide)).trans ((f9 20 (by decide)).trans (rfl))))))]; exact x4, by (try dsimp only); rw [((f87 12 (by decide)).trans ((f71 12 (by decide)).trans (rfl))), ((f87 13 (by decide)).trans ((f71 13 (by decide)).trans (rfl))), ((f87 14 (by decide)).trans ((f71 14 (by decide)).trans (rfl)))]; exact x55, by (try dsimp only); omega⟩
    · skip
      refine pe_rv d_S_compose_39 ?_
      first | (exfalso; omega) | exact ⟨hB, (fun b hb => (f14 b (by simp at hb ⊢; try omega)).trans ((f9 b (by simp at hb ⊢; try omega)).trans ((f4 b (by simp at hb ⊢; try omega)).trans (rfl)))), by omega, fun _ => by (try dsimp only); rw [((f14 19 (by decide)).trans ((f9 19 (by decide)).trans (rfl))), ((f14 20 (by decide)).trans ((f9 20 (by decide)).trans (rfl)))]; exact x4, fun h => absurd (by omega) h⟩
