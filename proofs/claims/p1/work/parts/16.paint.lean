theorem t_Q_paintRow {σ : pe_H} {r : Int} (hB : pe_B σ) (hd : 1 ≤ σ 25 2 ∧ σ 25 2 ≤ 24 ∧ 1 ≤ σ 25 3 ∧ σ 25 3 ≤ 8) (ht : 0 ≤ σ 24 1 ∧ σ 24 1 ≤ 8 ∧ 0 ≤ σ 24 2 ∧ σ 24 2 ≤ 24) (hq : 0 ≤ σ 23 2 ∧ σ 23 2 ≤ 2048) (hw : 1 ≤ σ 18 2 ∧ σ 18 2 ≤ 24 ∧ 1 ≤ σ 18 3 ∧ σ 18 3 ≤ 8) (hr : 0 ≤ r ∧ r ≤ 8) : pe_M m_Q_paintRow [pe_r 23, pe_r 18, pe_i r] σ (pe_qv (fun σ' => pe_B σ' ∧ (∀ b, b ∉ [23, 24, 26, 27, 28] → σ' b = σ b) ∧ (0 ≤ σ' 24 1 ∧ σ' 24 1 ≤ 8 ∧ 0 ≤ σ' 24 2 ∧ σ' 24 2 ≤ 24 ∧ 0 ≤ σ' 23 2 ∧ σ' 23 2 ≤ 2048))) := by
  refine pe_in0 (lv := [some (pe_r 23), some (pe_r 18), some (pe_i r), none, none, none, none, none, none, none]) ?_
  have hB0 := hB
  have J133 : ∀ x : Int × Int × Int × Int × Int × Int × Int × pe_H, (pe_B x.2.2.2.2.2.2.2 ∧ (∀ b, b ∉ [23, 24, 26, 27, 28] → x.2.2.2.2.2.2.2 b = σ b) ∧ (0 ≤ x.2.2.2.1 ∧ x.2.2.2.1 ≤ 24) ∧ (x.2.2.2.2.1 = 0 ∨ x.2.2.2.2.1 = 1) ∧ (0 ≤ x.2.2.2.2.2.2.2 24 1 ∧ x.2.2.2.2.2.2.2 24 1 ≤ 8 ∧ 0 ≤ x.2.2.2.2.2.2.2 24 2 ∧ x.2.2.2.2.2.2.2 24 2 ≤ 24 ∧ 0 ≤ x.2.2.2.2.2.2.2 23 2 ∧ x.2.2.2.2.2.2.2 23 2 ≤ 2048)) → pe_G m_Q_paintRow 133 [some (pe_r 23), some (pe_r 18), some (pe_i r), some (pe_i x.1), some (pe_i x.2.1), some (pe_i x.2.2.1), some (pe_i x.2.2.2.1), some (pe_i x.2.2.2.2.1), some (pe_i x.2.2.2.2.2.1), some (pe_i x.2.2.2.2.2.2.1)] [] x.2.2.2.2.2.2.2 (pe_qv (fun σ' => pe_B σ' ∧ (∀ b, b ∉ [23, 24, 26, 27, 28] → σ' b = σ b) ∧ (0 ≤ σ' 24 1 ∧ σ' 24 1 ≤ 8 ∧ 0 ≤ σ' 24 2 ∧ σ' 24 2 ≤ 24 ∧ 0 ≤ σ' 23 2 ∧ σ' 23 2 ≤ 2048))) := by
    intro x hI
    obtain ⟨f, l, b, e, z, n, c, τ⟩ := x
    dsimp only at hI ⊢
    obtain ⟨hB, hfr, hX⟩ := hI
    have v_18_2 : τ 18 2 = σ 18 2 := congrFun (hfr 18 (by decide)) 2
    have v_18_3 : τ 18 3 = σ 18 3 := congrFun (hfr 18 (by decide)) 3
    have v_25_2 : τ 25 2 = σ 25 2 := congrFun (hfr 25 (by decide)) 2
    have v_25_3 : τ 25 3 = σ 25 3 := congrFun (hfr 25 (by decide)) 3
    have hBt := hB
    refine pe_iload d_Q_paintRow_133 rfl ?_
    refine pe_if_eq (t := 160) d_Q_paintRow_135 (by first | exact hB _ _ | exact hB0 _ _ | exact hBt _ _ | exact ⟨by omega, by omega⟩) (fun h135 => ?_) (fun h135 => ?_)
    · skip
      refine pe_rv d_Q_paintRow_160 ?_
      exact ⟨hB, (fun b hb => hfr b (by simp at hb ⊢; try omega)), by omega⟩
    · skip
      refine pe_aload_n d_Q_paintRow_138 rfl ?_
      refine pe_iload_n d_Q_paintRow_139 rfl ?_
      refine pe_iload d_Q_paintRow_140 rfl ?_
      refine pe_v2v d_Q_paintRow_142 c_Q_67 i_Q_makePlaceRight s_Q_makePlaceRight rfl rfl (t_Q_makePlaceRight hB (by omega) (by omega) (by omega) (by omega) (by omega)) (fun σ142 hz142 => ?_)
      obtain ⟨hB, f142, x142⟩ := hz142
      try have u142_0 : σ142 24 1 = τ 24 1 := by first | exact o142 1 (by decide) | exact congrFun (f142 24 (by decide)) 1
      try have u142_1 : σ142 24 2 = τ 24 2 := by first | exact o142 2 (by decide) | exact congrFun (f142 24 (by decide)) 2
      try have u142_2 : σ142 25 2 = τ 25 2 := by first | exact o142 2 (by decide) | exact congrFun (f142 25 (by decide)) 2
      try have u142_3 : σ142 25 3 = τ 25 3 := by first | exact o142 3 (by decide) | exact congrFun (f142 25 (by decide)) 3
      try have u142_4 : σ142 23 2 = τ 23 2 := by first | exact o142 2 (by decide) | exact congrFun (f142 23 (by decide)) 2
      try have u142_5 : σ142 18 2 = τ 18 2 := by first | exact o142 2 (by decide) | exact congrFun (f142 18 (by decide)) 2
      try have u142_6 : σ142 18 3 = τ 18 3 := by first | exact o142 3 (by decide) | exact congrFun (f142 18 (by decide)) 3
      refine pe_aload_n d_Q_paintRow_145 rfl ?_
      refine pe_iconst d_Q_paintRow_146 ?_
      refine pe_iconst d_Q_paintRow_147 ?_
      refine pe_bipush d_Q_paintRow_148 ?_
      refine pe_v3v d_Q_paintRow_150 c_Q_32 i_Q_sendSequence s_Q_sendSequence rfl rfl (t_Q_sendSequence hB (by omega) (by first | exact hB _ _ | exact hB0 _ _ | exact hBt _ _ | exact ⟨by omega, by omega⟩) (by first | exact hB _ _ | exact hB0 _ _ | exact hBt _ _ | exact ⟨by omega, by omega⟩) (by first | exact hB _ _ | exact hB0 _ _ | exact hBt _ _ | exact ⟨by omega, by omega⟩)) (fun σ150 hz150 => ?_)
      obtain ⟨hB, f150, x150⟩ := hz150
      try have u150_0 : σ150 24 1 = σ142 24 1 := by first | exact o150 1 (by decide) | exact congrFun (f150 24 (by decide)) 1
      try have u150_1 : σ150 24 2 = σ142 24 2 := by first | exact o150 2 (by decide) | exact congrFun (f150 24 (by decide)) 2
      try have u150_2 : σ150 25 2 = σ142 25 2 := by first | exact o150 2 (by decide) | exact congrFun (f150 25 (by decide)) 2
      try have u150_3 : σ150 25 3 = σ142 25 3 := by first | exact o150 3 (by decide) | exact congrFun (f150 25 (by decide)) 3
      try have u150_4 : σ150 23 2 = σ142 23 2 := by first | exact o150 2 (by decide) | exact congrFun (f150 23 (by decide)) 2
      try have u150_5 : σ150 18 2 = σ142 18 2 := by first | exact o150 2 (by decide) | exact congrFun (f150 18 (by decide)) 2
      try have u150_6 : σ150 18 3 = σ142 18 3 := by first | exact o150 3 (by decide) | exact congrFun (f150 18 (by decide)) 3
      refine pe_aload_n d_Q_paintRow_153 rfl ?_
      refine pe_getr f_Q_20 d_Q_paintRow_154 rfl rfl ?_
      refine pe_v0v d_Q_paintRow_157 c_Q_70 i_Z_eraseRestOfRow s_Z_eraseRestOfRow rfl rfl (t_Z_eraseRestOfRow hB (by omega) (by omega)) (fun σ157 hz157 => ?_)
      obtain ⟨hB, f157, x157⟩ := hz157
      try have u157_0 : σ157 24 1 = σ150 24 1 := by first | exact o157 1 (by decide) | exact congrFun (f157 24 (by decide)) 1
      try have u157_1 : σ157 24 2 = σ150 24 2 := by first | exact o157 2 (by decide) | exact congrFun (f157 24 (by decide)) 2
      try have u157_2 : σ157 25 2 = σ150 25 2 := by first | exact o157 2 (by decide) | exact congrFun (f157 25 (by decide)) 2
      try have u157_3 : σ157 25 3 = σ150 25 3 := by first | exact o157 3 (by decide) | exact congrFun (f157 25 (by decide)) 3
      try have u157_4 : σ157 23 2 = σ150 23 2 := by first | exact o157 2 (by decide) | exact congrFun (f157 23 (by decide)) 2
      try have u157_5 : σ157 18 2 = σ150 18 2 := by first | exact o157 2 (by decide) | exact congrFun (f157 18 (by decide)) 2
      try have u157_6 : σ157 18 3 = σ150 18 3 := by first | exact o157 3 (by decide) | exact congrFun (f157 18 (by decide)) 3
      refine pe_rv d_Q_paintRow_160 ?_
      exact ⟨hB, (fun b hb => (f157 b (by simp at hb ⊢; try omega)).trans ((f150 b (by simp at hb ⊢; try omega)).trans ((f142 b (by simp at hb ⊢; try omega)).trans (hfr b (by simp at hb ⊢; try omega))))), by omega⟩
  have J89 : ∀ x : Int × Int × Int × Int × Int × Int × Int × pe_H, (pe_B x.2.2.2.2.2.2.2 ∧ (∀ b, b ∉ [23, 24, 26, 27, 28] → x.2.2.2.2.2.2.2 b = σ b) ∧ (0 ≤ x.2.2.2.1 ∧ x.2.2.2.1 ≤ 24) ∧ (x.2.2.2.2.1 = 0 ∨ x.2.2.2.2.1 = 1) ∧ (x.2.2.2.2.2.1 ≤ 24 ∧ -1 ≤ x.2.2.2.2.2.1) ∧ (0 ≤ x.2.2.2.2.2.2.1 ∧ x.2.2.2.2.2.2.1 ≤ 26) ∧ (0 ≤ x.2.2.2.2.2.2.2 24 1 ∧ x.2.2.2.2.2.2.2 24 1 ≤ 8 ∧ 0 ≤ x.2.2.2.2.2.2.2 24 2 ∧ x.2.2.2.2.2.2.2 24 2 ≤ 24 ∧ 0 ≤ x.2.2.2.2.2.2.2 23 2 ∧ x.2.2.2.2.2.2.2 23 2 ≤ 2048)) → pe_G m_Q_paintRow 89 [some (pe_r 23), some (pe_r 18), some (pe_i r), some (pe_i x.1), some (pe_i x.2.1), some (pe_i x.2.2.1), some (pe_i x.2.2.2.1), some (pe_i x.2.2.2.2.1), some (pe_i x.2.2.2.2.2.1), some (pe_i x.2.2.2.2.2.2.1)] [] x.2.2.2.2.2.2.2 (pe_qv (fun σ' => pe_B σ' ∧ (∀ b, b ∉ [23, 24, 26, 27, 28] → σ' b = σ b) ∧ (0 ≤ σ' 24 1 ∧ σ' 24 1 ≤ 8 ∧ 0 ≤ σ' 24 2 ∧ σ' 24 2 ≤ 24 ∧ 0 ≤ σ' 23 2 ∧ σ' 23 2 ≤ 2048))) := by
    refine pe_loop (fun x : Int × Int × Int × Int × Int × Int × Int × pe_H => (100 - x.2.2.2.2.2.2.1).toNat) _ _ ?_
    intro x hI ih
    obtain ⟨f, l, b, e, z, n, c, τ⟩ := x
    dsimp only at hI ⊢
    obtain ⟨hB, hfr, hX⟩ := hI
    have v_18_2 : τ 18 2 = σ 18 2 := congrFun (hfr 18 (by decide)) 2
    have v_18_3 : τ 18 3 = σ 18 3 := congrFun (hfr 18 (by decide)) 3
    have v_25_2 : τ 25 2 = σ 25 2 := congrFun (hfr 25 (by decide)) 2
    have v_25_3 : τ 25 3 = σ 25 3 := congrFun (hfr 25 (by decide)) 3
    have hBt := hB
    refine pe_iload d_Q_paintRow_89 rfl ?_
    refine pe_iload d_Q_paintRow_91 rfl ?_
    refine pe_icmp_gt (t := 133) d_Q_paintRow_93 (by first | exact hB _ _ | exact hB0 _ _ | exact hBt _ _ | exact ⟨by omega, by omega⟩) (by first | exact hB _ _ | exact hB0 _ _ | exact hBt _ _ | exact ⟨by omega, by omega⟩) (fun h93 => ?_) (fun h93 => ?_)
    · skip
      exact J133 (_, _, _, _, _, _, _, _) ⟨hB, (fun b hb => hfr b (by simp at hb ⊢; try omega)), by (try dsimp only); omega⟩
    · skip
      refine pe_aload_n d_Q_paintRow_96 rfl ?_
      refine pe_iload_n d_Q_paintRow_97 rfl ?_
      refine pe_iload d_Q_paintRow_98 rfl ?_
      refine pe_v2p d_Q_paintRow_100 c_Q_46 i_G_clusterAt s_G_clusterAt rfl rfl (t_G_clusterAt_18 hB (by omega) (by first | exact hB _ _ | exact hB0 _ _ | exact hBt _ _ | exact ⟨by omega, by omega⟩) (by first | exact hB _ _ | exact hB0 _ _ | exact hBt _ _ | exact ⟨by omega, by omega⟩)) (fun z100 hz100 => ?_)
      refine pe_if_eq (t := 127) d_Q_paintRow_103 (by first | exact hB _ _ | exact hB0 _ _ | exact hBt _ _ | exact ⟨by omega, by omega⟩) (fun h103 => ?_) (fun h103 => ?_)
      · skip
        refine pe_iinc d_Q_paintRow_127 rfl ?_
        refine pe_goto (t := 89) d_Q_paintRow_130 ?_
        exact ih (_, _, _, _, _, _, _, _) ⟨hB, (fun b hb => hfr b (by simp at hb ⊢; try omega)), by (try dsimp only); omega⟩ (by (try dsimp only); omega)
      · skip
        refine pe_aload_n d_Q_paintRow_106 rfl ?_
        refine pe_iload_n d_Q_paintRow_107 rfl ?_
        refine pe_iload d_Q_paintRow_108 rfl ?_
        refine pe_aload_n d_Q_paintRow_110 rfl ?_
        refine pe_iload_n d_Q_paintRow_111 rfl ?_
        refine pe_iload d_Q_paintRow_112 rfl ?_
        refine pe_v2p d_Q_paintRow_114 c_Q_46 i_G_clusterAt s_G_clusterAt rfl rfl (t_G_clusterAt_18 hB (by omega) (by first | exact hB _ _ | exact hB0 _ _ | exact hBt _ _ | exact ⟨by omega, by omega⟩) (by first | exact hB _ _ | exact hB0 _ _ | exact hBt _ _ | exact ⟨by omega, by omega⟩)) (fun z114 hz114 => ?_)
        refine pe_aload_n d_Q_paintRow_117 rfl ?_
        refine pe_iload_n d_Q_paintRow_118 rfl ?_
        refine pe_iload d_Q_paintRow_119 rfl ?_
        refine pe_v2p d_Q_paintRow_121 c_Q_60 i_G_lookAt s_G_lookAt rfl rfl (t_G_lookAt_18 hB (by omega) (by first | exact hB _ _ | exact hB0 _ _ | exact hBt _ _ | exact ⟨by omega, by omega⟩) (by first | exact hB _ _ | exact hB0 _ _ | exact hBt _ _ | exact ⟨by omega, by omega⟩)) (fun z121 hz121 => ?_)
        refine pe_v4v d_Q_paintRow_124 c_Q_63 i_Q_sendCluster s_Q_sendCluster rfl rfl (t_Q_sendCluster hB (by omega) (by omega) (by omega) (by omega) (by omega) (by first | exact hB _ _ | exact hB0 _ _ | exact hBt _ _ | exact ⟨by omega, by omega⟩) (by first | exact hB _ _ | exact hB0 _ _ | exact hBt _ _ | exact ⟨by omega, by omega⟩)) (fun σ124 hz124 => ?_)
        obtain ⟨hB, f124, x124⟩ := hz124
        try have u124_0 : σ124 24 1 = τ 24 1 := by first | exact o124 1 (by decide) | exact congrFun (f124 24 (by decide)) 1
        try have u124_1 : σ124 24 2 = τ 24 2 := by first | exact o124 2 (by decide) | exact congrFun (f124 24 (by decide)) 2
        try have u124_2 : σ124 25 2 = τ 25 2 := by first | exact o124 2 (by decide) | exact congrFun (f124 25 (by decide)) 2
        try have u124_3 : σ124 25 3 = τ 25 3 := by first | exact o124 3 (by decide) | exact congrFun (f124 25 (by decide)) 3
        try have u124_4 : σ124 23 2 = τ 23 2 := by first | exact o124 2 (by decide) | exact congrFun (f124 23 (by decide)) 2
        try have u124_5 : σ124 18 2 = τ 18 2 := by first | exact o124 2 (by decide) | exact congrFun (f124 18 (by decide)) 2
        try have u124_6 : σ124 18 3 = τ 18 3 := by first | exact o124 3 (by decide) | exact congrFun (f124 18 (by decide)) 3
        refine pe_iinc d_Q_paintRow_127 rfl ?_
        refine pe_goto (t := 89) d_Q_paintRow_130 ?_
        exact ih (_, _, _, _, _, _, _, _) ⟨hB, (fun b hb => (f124 b (by simp at hb ⊢; try omega)).trans (hfr b (by simp at hb ⊢; try omega))), by (try dsimp only); omega⟩ (by (try dsimp only); omega)
  have J37 : ∀ x : Int × Int, ((0 ≤ x.1 ∧ x.1 < σ 18 2) ∧ (-1 ≤ x.2 ∧ x.2 < σ 18 2)) → pe_G m_Q_paintRow 37 [some (pe_r 23), some (pe_r 18), some (pe_i r), some (pe_i x.1), some (pe_i x.2), none, none, none, none, none] [] σ (pe_qv (fun σ' => pe_B σ' ∧ (∀ b, b ∉ [23, 24, 26, 27, 28] → σ' b = σ b) ∧ (0 ≤ σ' 24 1 ∧ σ' 24 1 ≤ 8 ∧ 0 ≤ σ' 24 2 ∧ σ' 24 2 ≤ 24 ∧ 0 ≤ σ' 23 2 ∧ σ' 23 2 ≤ 2048))) := by
    intro x hI
    obtain ⟨f, l⟩ := x
    dsimp only at hI ⊢
    refine pe_aload_n d_Q_paintRow_37 rfl ?_
    refine pe_iload_n d_Q_paintRow_38 rfl ?_
    refine pe_s2p d_Q_paintRow_39 c_Q_52 z_Q_blankBeginning (t_Q_blankBeginning hB (by omega) (by omega)) (fun z39 hz39 => ?_)
    refine pe_istore d_Q_paintRow_42 ?_
    refine pe_iload_n d_Q_paintRow_44 rfl ?_
    refine pe_iload d_Q_paintRow_45 rfl ?_
    refine pe_maxT c_Q_55 d_Q_paintRow_47 (by first | exact hB _ _ | exact hB0 _ _ | exact hBt _ _ | exact ⟨by omega, by omega⟩) (by first | exact hB _ _ | exact hB0 _ _ | exact hBt _ _ | exact ⟨by omega, by omega⟩) (fun z47 hz47 => ?_)
    refine pe_istore d_Q_paintRow_50 ?_
    refine pe_iload d_Q_paintRow_52 rfl ?_
    refine pe_iload d_Q_paintRow_54 rfl ?_
    refine pe_isub d_Q_paintRow_56 ?_
    refine pe_iconst d_Q_paintRow_57 ?_
    refine pe_iadd d_Q_paintRow_58 ?_
    refine pe_iconst d_Q_paintRow_59 ?_
    refine pe_icmp_le (t := 67) d_Q_paintRow_60 (by first | exact hB _ _ | exact hB0 _ _ | exact hBt _ _ | exact ⟨by omega, by omega⟩) (by first | exact hB _ _ | exact hB0 _ _ | exact hBt _ _ | exact ⟨by omega, by omega⟩) (fun h60 => ?_) (fun h60 => ?_)
    · skip
      refine pe_iconst d_Q_paintRow_67 ?_
      refine pe_istore d_Q_paintRow_68 ?_
      refine pe_iload d_Q_paintRow_70 rfl ?_
      refine pe_if_eq (t := 82) d_Q_paintRow_72 (by first | exact hB _ _ | exact hB0 _ _ | exact hBt _ _ | exact ⟨by omega, by omega⟩) (fun h72 => ?_) (fun h72 => ?_)
      · skip
        refine pe_iload d_Q_paintRow_82 rfl ?_
        refine pe_istore d_Q_paintRow_84 ?_
        refine pe_iload_n d_Q_paintRow_86 rfl ?_
        refine pe_istore d_Q_paintRow_87 ?_
        exact J89 (_, _, _, _, _, _, _, _) ⟨hB, (fun b hb => rfl), by (try dsimp only); omega⟩
      · skip
        refine pe_iload d_Q_paintRow_75 rfl ?_
        refine pe_iconst d_Q_paintRow_77 ?_
        refine pe_isub d_Q_paintRow_78 ?_
        refine pe_goto (t := 84) d_Q_paintRow_79 ?_
        refine pe_istore d_Q_paintRow_84 ?_
        refine pe_iload_n d_Q_paintRow_86 rfl ?_
        refine pe_istore d_Q_paintRow_87 ?_
        exact J89 (_, _, _, _, _, _, _, _) ⟨hB, (fun b hb => rfl), by (try dsimp only); omega⟩
    · skip
      refine pe_iconst d_Q_paintRow_63 ?_
      refine pe_goto (t := 68) d_Q_paintRow_64 ?_
      refine pe_istore d_Q_paintRow_68 ?_
      refine pe_iload d_Q_paintRow_70 rfl ?_
      refine pe_if_eq (t := 82) d_Q_paintRow_72 (by first | exact hB _ _ | exact hB0 _ _ | exact hBt _ _ | exact ⟨by omega, by omega⟩) (fun h72 => ?_) (fun h72 => ?_)
      · skip
        refine pe_iload d_Q_paintRow_82 rfl ?_
        refine pe_istore d_Q_paintRow_84 ?_
        refine pe_iload_n d_Q_paintRow_86 rfl ?_
        refine pe_istore d_Q_paintRow_87 ?_
        exact J89 (_, _, _, _, _, _, _, _) ⟨hB, (fun b hb => rfl), by (try dsimp only); omega⟩
      · skip
        refine pe_iload d_Q_paintRow_75 rfl ?_
        refine pe_iconst d_Q_paintRow_77 ?_
        refine pe_isub d_Q_paintRow_78 ?_
        refine pe_goto (t := 84) d_Q_paintRow_79 ?_
        refine pe_istore d_Q_paintRow_84 ?_
        refine pe_iload_n d_Q_paintRow_86 rfl ?_
        refine pe_istore d_Q_paintRow_87 ?_
        exact J89 (_, _, _, _, _, _, _, _) ⟨hB, (fun b hb => rfl), by (try dsimp only); omega⟩
  refine pe_aload_n d_Q_paintRow_0 rfl ?_
  refine pe_aload_n d_Q_paintRow_1 rfl ?_
  refine pe_iload_n d_Q_paintRow_2 rfl ?_
  refine pe_v2p d_Q_paintRow_3 c_Q_39 i_Q_firstDifference s_Q_firstDifference rfl rfl (t_Q_firstDifference hB (by omega) (by omega) (by omega)) (fun z3 hz3 => ?_)
  refine pe_istore_n d_Q_paintRow_6 ?_
  refine pe_iload_n d_Q_paintRow_7 rfl ?_
  refine pe_iconst d_Q_paintRow_8 ?_
  refine pe_icmp_ne (t := 13) d_Q_paintRow_9 (by first | exact hB _ _ | exact hB0 _ _ | exact hBt _ _ | exact ⟨by omega, by omega⟩) (by first | exact hB _ _ | exact hB0 _ _ | exact hBt _ _ | exact ⟨by omega, by omega⟩) (fun h9 => ?_) (fun h9 => ?_)
  · skip
    refine pe_aload_n d_Q_paintRow_13 rfl ?_
    refine pe_aload_n d_Q_paintRow_14 rfl ?_
    refine pe_iload_n d_Q_paintRow_15 rfl ?_
    refine pe_v2p d_Q_paintRow_16 c_Q_43 i_Q_lastDifference s_Q_lastDifference rfl rfl (t_Q_lastDifference hB (by omega) (by omega) (by omega)) (fun z16 hz16 => ?_)
    refine pe_istore d_Q_paintRow_19 ?_
    refine pe_iload_n d_Q_paintRow_21 rfl ?_
    refine pe_if_le (t := 37) d_Q_paintRow_22 (by first | exact hB _ _ | exact hB0 _ _ | exact hBt _ _ | exact ⟨by omega, by omega⟩) (fun h22 => ?_) (fun h22 => ?_)
    · skip
      exact J37 (_, _) (by (try dsimp only); omega)
    · skip
      refine pe_aload_n d_Q_paintRow_25 rfl ?_
      refine pe_iload_n d_Q_paintRow_26 rfl ?_
      refine pe_iload_n d_Q_paintRow_27 rfl ?_
      refine pe_v2p d_Q_paintRow_28 c_Q_46 i_G_clusterAt s_G_clusterAt rfl rfl (t_G_clusterAt_18 hB (by omega) (by first | exact hB _ _ | exact hB0 _ _ | exact hBt _ _ | exact ⟨by omega, by omega⟩) (by first | exact hB _ _ | exact hB0 _ _ | exact hBt _ _ | exact ⟨by omega, by omega⟩)) (fun z28 hz28 => ?_)
      refine pe_if_ne (t := 37) d_Q_paintRow_31 (by first | exact hB _ _ | exact hB0 _ _ | exact hBt _ _ | exact ⟨by omega, by omega⟩) (fun h31 => ?_) (fun h31 => ?_)
      · skip
        exact J37 (_, _) (by (try dsimp only); omega)
      · skip
        refine pe_iinc d_Q_paintRow_34 rfl ?_
        exact J37 (_, _) (by (try dsimp only); omega)
  · skip
    refine pe_rv d_Q_paintRow_12 ?_
    exact ⟨hB, (fun b hb => rfl), by omega⟩
