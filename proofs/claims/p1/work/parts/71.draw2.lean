theorem y_C_characterOf {σ : pe_H} {c : Int} (hc : 0 ≤ c ∧ c < 65536) : pe_M m_C_characterOf [pe_i c] σ (pe_qp σ (fun z => z = c)) := by
  refine pe_in0 (lv := [some (pe_i c)]) ?_
  refine pe_iload_n d_C_characterOf_0 rfl ?_
  refine pe_ldc q_C_21 d_C_characterOf_1 (z := 65536) rfl ?_
  refine pe_iremN d_C_characterOf_3 (by omega) (by omega) ?_
  refine pe_ri d_C_characterOf_4 ?_
  exact ⟨rfl, by omega⟩
theorem y_C_firstMarkOf {σ : pe_H} {c : Int} (hc : 0 ≤ c ∧ c < 65536) : pe_M m_C_firstMarkOf [pe_i c] σ (pe_qp σ (fun z => z = -1)) := by
  refine pe_in0 (lv := [some (pe_i c), none]) ?_
  refine pe_iload_n d_C_firstMarkOf_0 rfl ?_
  refine pe_ldc q_C_22 d_C_firstMarkOf_1 (z := 8388608) rfl ?_
  refine pe_iremN d_C_firstMarkOf_3 (by omega) (by omega) ?_
  refine pe_ldc q_C_21 d_C_firstMarkOf_4 (z := 65536) rfl ?_
  refine pe_idivN d_C_firstMarkOf_6 (by omega) (by omega) ?_
  refine pe_istore_n d_C_firstMarkOf_7 ?_
  refine pe_iload_n d_C_firstMarkOf_8 rfl ?_
  refine pe_if_ne (t := 16) d_C_firstMarkOf_9 (by first | exact hB _ _ | exact hB0 _ _ | exact hBt _ _ | exact ⟨by omega, by omega⟩) (fun h9 => ?_) (fun h9 => ?_)
  · skip
    refine pe_iload_n d_C_firstMarkOf_16 rfl ?_
    refine pe_sipush d_C_firstMarkOf_17 ?_
    refine pe_iadd d_C_firstMarkOf_20 ?_
    refine pe_ri d_C_firstMarkOf_21 ?_
    exact ⟨rfl, by omega⟩
  · skip
    refine pe_iconst d_C_firstMarkOf_12 ?_
    refine pe_goto (t := 21) d_C_firstMarkOf_13 ?_
    refine pe_ri d_C_firstMarkOf_21 ?_
    exact ⟨rfl, by omega⟩
theorem y_C_secondMarkOf {σ : pe_H} {c : Int} (hc : 0 ≤ c ∧ c < 65536) : pe_M m_C_secondMarkOf [pe_i c] σ (pe_qp σ (fun z => z = -1)) := by
  refine pe_in0 (lv := [some (pe_i c), none]) ?_
  refine pe_iload_n d_C_secondMarkOf_0 rfl ?_
  refine pe_ldc q_C_22 d_C_secondMarkOf_1 (z := 8388608) rfl ?_
  refine pe_idivN d_C_secondMarkOf_3 (by omega) (by omega) ?_
  refine pe_istore_n d_C_secondMarkOf_4 ?_
  refine pe_iload_n d_C_secondMarkOf_5 rfl ?_
  refine pe_if_ne (t := 13) d_C_secondMarkOf_6 (by first | exact hB _ _ | exact hB0 _ _ | exact hBt _ _ | exact ⟨by omega, by omega⟩) (fun h6 => ?_) (fun h6 => ?_)
  · skip
    refine pe_iload_n d_C_secondMarkOf_13 rfl ?_
    refine pe_sipush d_C_secondMarkOf_14 ?_
    refine pe_iadd d_C_secondMarkOf_17 ?_
    refine pe_ri d_C_secondMarkOf_18 ?_
    exact ⟨rfl, by omega⟩
  · skip
    refine pe_iconst d_C_secondMarkOf_9 ?_
    refine pe_goto (t := 18) d_C_secondMarkOf_10 ?_
    refine pe_ri d_C_secondMarkOf_18 ?_
    exact ⟨rfl, by omega⟩
theorem pe_nzput {f g : Int → Int} {a i k n : Int} (h : ∀ j, 0 ≤ j → j < n → f (a * 24 + j) ≠ 0) (e : g (a * 24 + i) = k) (hk : k ≠ 0) (o : ∀ j, j ≠ a * 24 + i → g j = f j) : ∀ j, 0 ≤ j → j < n → g (a * 24 + j) ≠ 0 := by
  intro j h1 h2
  by_cases q : j = i
  · rw [q, e]; exact hk
  · rw [o _ (by omega)]; exact h j h1 h2
set_option maxHeartbeats 2000000 in
theorem y_Z_writeCells {σ : pe_H} {k : Int} (hB : pe_B σ) (hd : 1 ≤ σ 25 2 ∧ σ 25 2 ≤ 24 ∧ 1 ≤ σ 25 3 ∧ σ 25 3 ≤ 8) (hp : 0 ≤ σ 24 1 ∧ σ 24 1 < σ 25 3 ∧ 0 ≤ σ 24 2 ∧ σ 24 2 < σ 25 2 ∧ σ 24 3 = 0) (hz : ∀ j, 0 ≤ j → j < σ 25 2 → σ 26 (σ 24 1 * 24 + j) ≠ 0) (hk : 32 ≤ k ∧ k ≤ 126) : pe_M m_Z_writeCells [pe_r 24, pe_i k] σ (pe_qv (fun σ' => pe_B σ' ∧ (∀ b, b ∉ [24, 26, 27] → σ' b = σ b) ∧ (σ' 24 1 = σ 24 1 ∧ σ' 24 4 = σ 24 4 ∧ (σ 24 2 + 1 < σ 25 2 → σ' 24 2 = σ 24 2 + 1 ∧ σ' 24 3 = 0)) ∧ ∀ j, 0 ≤ j → j < σ 25 2 → σ' 26 (σ 24 1 * 24 + j) ≠ 0)) := by
  refine pe_in0 (lv := [some (pe_r 24), some (pe_i k), none]) ?_
  have hB0 := hB
  refine pe_iload_n d_Z_writeCells_0 rfl ?_
  refine pe_s1p d_Z_writeCells_1 c_Z_49 z_C_widthOf (t_C_widthOf (by first | exact hB _ _ | exact hB0 _ _ | exact hBt _ _ | exact ⟨by omega, by omega⟩)) (fun z1 hz1 => ?_)
  refine pe_istore_n d_Z_writeCells_4 ?_
  refine pe_aload_n d_Z_writeCells_5 rfl ?_
  refine pe_getr f_Z_14 d_Z_writeCells_6 rfl rfl ?_
  refine pe_aload_n d_Z_writeCells_9 rfl ?_
  refine pe_geti f_Z_33 d_Z_writeCells_10 rfl rfl 1 rfl ?_
  refine pe_aload_n d_Z_writeCells_13 rfl ?_
  refine pe_geti f_Z_46 d_Z_writeCells_14 rfl rfl 2 rfl ?_
  refine pe_v2p d_Z_writeCells_17 c_Z_66 i_G_clusterAt s_G_clusterAt rfl rfl (y_G_clusterAt_25 hB (by omega) (by omega)) (fun z17 hz17 => ?_)
  have hR17 : pe_R z17 := by rw [hz17]; exact hB _ _
  have n17 := hz _ hp.2.2.1 hp.2.2.2.1
  rw [← hz17] at n17
  refine pe_if_ne (t := 43) d_Z_writeCells_20 (by first | exact hB _ _ | exact hB0 _ _ | exact hBt _ _ | exact ⟨by omega, by omega⟩) (fun h20 => ?_) (fun h20 => ?_)
  · skip
    refine pe_aload_n d_Z_writeCells_43 rfl ?_
    refine pe_getr f_Z_14 d_Z_writeCells_44 rfl rfl ?_
    refine pe_aload_n d_Z_writeCells_47 rfl ?_
    refine pe_geti f_Z_33 d_Z_writeCells_48 rfl rfl 1 rfl ?_
    refine pe_aload_n d_Z_writeCells_51 rfl ?_
    refine pe_geti f_Z_46 d_Z_writeCells_52 rfl rfl 2 rfl ?_
    refine pe_iload_n d_Z_writeCells_55 rfl ?_
    refine pe_iadd d_Z_writeCells_56 ?_
    refine pe_v2p d_Z_writeCells_57 c_Z_66 i_G_clusterAt s_G_clusterAt rfl rfl (x_G_clusterAt_25 hB (by omega) (by first | exact hB _ _ | exact hB0 _ _ | exact hBt _ _ | exact ⟨by omega, by omega⟩) (by first | exact hB _ _ | exact hB0 _ _ | exact hBt _ _ | exact ⟨by omega, by omega⟩)) (fun z57 hz57 => ?_)
    have hR57 : pe_R z57 := by rw [hz57]; split <;> first | exact hB _ _ | exact ⟨by omega, by omega⟩
    have n57 : z57 ≠ 0 := by
      rw [hz57]
      split
      · exact hz _ (by omega) (by omega)
      · decide
    refine pe_if_ne (t := 83) d_Z_writeCells_60 (by first | exact hB _ _ | exact hB0 _ _ | exact hBt _ _ | exact ⟨by omega, by omega⟩) (fun h60 => ?_) (fun h60 => ?_)
    · skip
      refine pe_aload_n d_Z_writeCells_83 rfl ?_
      refine pe_getr f_Z_14 d_Z_writeCells_84 rfl rfl ?_
      refine pe_aload_n d_Z_writeCells_87 rfl ?_
      refine pe_geti f_Z_33 d_Z_writeCells_88 rfl rfl 1 rfl ?_
      refine pe_aload_n d_Z_writeCells_91 rfl ?_
      refine pe_geti f_Z_46 d_Z_writeCells_92 rfl rfl 2 rfl ?_
      refine pe_iload_n d_Z_writeCells_95 rfl ?_
      refine pe_aload_n d_Z_writeCells_96 rfl ?_
      refine pe_geti f_Z_85 d_Z_writeCells_97 rfl rfl 4 rfl ?_
      refine pe_v4v d_Z_writeCells_100 c_Z_81 i_G_put s_G_put rfl rfl (y_G_put_25 hB (by omega) (by omega) (by first | exact hB _ _ | exact hB0 _ _ | exact hBt _ _ | exact ⟨by omega, by omega⟩) (by first | exact hB _ _ | exact hB0 _ _ | exact hBt _ _ | exact ⟨by omega, by omega⟩)) (fun σ100 hz100 => ?_)
      obtain ⟨hB, f100, x100⟩ := hz100
      try have u100_0 : σ100 24 1 = σ 24 1 := by first | exact o100 1 (by decide) | exact congrFun (f100 24 (by decide)) 1
      try have u100_1 : σ100 24 2 = σ 24 2 := by first | exact o100 2 (by decide) | exact congrFun (f100 24 (by decide)) 2
      try have u100_2 : σ100 24 3 = σ 24 3 := by first | exact o100 3 (by decide) | exact congrFun (f100 24 (by decide)) 3
      try have u100_3 : σ100 24 4 = σ 24 4 := by first | exact o100 4 (by decide) | exact congrFun (f100 24 (by decide)) 4
      try have u100_4 : σ100 25 2 = σ 25 2 := by first | exact o100 2 (by decide) | exact congrFun (f100 25 (by decide)) 2
      try have u100_5 : σ100 25 3 = σ 25 3 := by first | exact o100 3 (by decide) | exact congrFun (f100 25 (by decide)) 3
      try have u100_6 : σ100 23 2 = σ 23 2 := by first | exact o100 2 (by decide) | exact congrFun (f100 23 (by decide)) 2
      try have u100_7 : σ100 18 2 = σ 18 2 := by first | exact o100 2 (by decide) | exact congrFun (f100 18 (by decide)) 2
      try have u100_8 : σ100 18 3 = σ 18 3 := by first | exact o100 3 (by decide) | exact congrFun (f100 18 (by decide)) 3
      have nz : ∀ j, 0 ≤ j → j < σ 25 2 → σ100 26 (σ 24 1 * 24 + j) ≠ 0 := pe_nzput hz x100.1.1 (by omega) (fun j hj => (x100.2 j hj).1)
      refine pe_iload_n d_Z_writeCells_103 rfl ?_
      refine pe_iconst d_Z_writeCells_104 ?_
      refine pe_icmp_ne (t := 130) d_Z_writeCells_105 (by first | exact hB _ _ | exact hB0 _ _ | exact hBt _ _ | exact ⟨by omega, by omega⟩) (by first | exact hB _ _ | exact hB0 _ _ | exact hBt _ _ | exact ⟨by omega, by omega⟩) (fun h105 => ?_) (fun h105 => ?_)
      · skip
        refine pe_aload_n d_Z_writeCells_130 rfl ?_
        refine pe_aload_n d_Z_writeCells_131 rfl ?_
        refine pe_geti f_Z_33 d_Z_writeCells_132 rfl rfl 1 rfl ?_
        refine pe_putiT f_Z_60 g_10_5 d_Z_writeCells_135 rfl rfl 5 rfl hB (by first | exact hB _ _ | exact hB0 _ _ | exact hBt _ _ | exact ⟨by omega, by omega⟩) (fun σ135 hB e135 o135 f135 => ?_)
        try have u135_0 : σ135 24 1 = σ100 24 1 := by first | exact o135 1 (by decide) | exact congrFun (f135 24 (by decide)) 1
        try have u135_1 : σ135 24 2 = σ100 24 2 := by first | exact o135 2 (by decide) | exact congrFun (f135 24 (by decide)) 2
        try have u135_2 : σ135 24 3 = σ100 24 3 := by first | exact o135 3 (by decide) | exact congrFun (f135 24 (by decide)) 3
        try have u135_3 : σ135 24 4 = σ100 24 4 := by first | exact o135 4 (by decide) | exact congrFun (f135 24 (by decide)) 4
        try have u135_4 : σ135 25 2 = σ100 25 2 := by first | exact o135 2 (by decide) | exact congrFun (f135 25 (by decide)) 2
        try have u135_5 : σ135 25 3 = σ100 25 3 := by first | exact o135 3 (by decide) | exact congrFun (f135 25 (by decide)) 3
        try have u135_6 : σ135 23 2 = σ100 23 2 := by first | exact o135 2 (by decide) | exact congrFun (f135 23 (by decide)) 2
        try have u135_7 : σ135 18 2 = σ100 18 2 := by first | exact o135 2 (by decide) | exact congrFun (f135 18 (by decide)) 2
        try have u135_8 : σ135 18 3 = σ100 18 3 := by first | exact o135 3 (by decide) | exact congrFun (f135 18 (by decide)) 3
        refine pe_aload_n d_Z_writeCells_138 rfl ?_
        refine pe_aload_n d_Z_writeCells_139 rfl ?_
        refine pe_geti f_Z_46 d_Z_writeCells_140 rfl rfl 2 rfl ?_
        refine pe_putiT f_Z_63 g_10_6 d_Z_writeCells_143 rfl rfl 6 rfl hB (by first | exact hB _ _ | exact hB0 _ _ | exact hBt _ _ | exact ⟨by omega, by omega⟩) (fun σ143 hB e143 o143 f143 => ?_)
        try have u143_0 : σ143 24 1 = σ135 24 1 := by first | exact o143 1 (by decide) | exact congrFun (f143 24 (by decide)) 1
        try have u143_1 : σ143 24 2 = σ135 24 2 := by first | exact o143 2 (by decide) | exact congrFun (f143 24 (by decide)) 2
        try have u143_2 : σ143 24 3 = σ135 24 3 := by first | exact o143 3 (by decide) | exact congrFun (f143 24 (by decide)) 3
        try have u143_3 : σ143 24 4 = σ135 24 4 := by first | exact o143 4 (by decide) | exact congrFun (f143 24 (by decide)) 4
        try have u143_4 : σ143 25 2 = σ135 25 2 := by first | exact o143 2 (by decide) | exact congrFun (f143 25 (by decide)) 2
        try have u143_5 : σ143 25 3 = σ135 25 3 := by first | exact o143 3 (by decide) | exact congrFun (f143 25 (by decide)) 3
        try have u143_6 : σ143 23 2 = σ135 23 2 := by first | exact o143 2 (by decide) | exact congrFun (f143 23 (by decide)) 2
        try have u143_7 : σ143 18 2 = σ135 18 2 := by first | exact o143 2 (by decide) | exact congrFun (f143 18 (by decide)) 2
        try have u143_8 : σ143 18 3 = σ135 18 3 := by first | exact o143 3 (by decide) | exact congrFun (f143 18 (by decide)) 3
        refine pe_aload_n d_Z_writeCells_146 rfl ?_
        refine pe_iconst d_Z_writeCells_147 ?_
        refine pe_putzT f_Z_69 g_10_7 d_Z_writeCells_148 rfl rfl (by first | exact Or.inl rfl | exact Or.inr rfl | omega) 7 rfl hB (fun σ148 hB e148 o148 f148 => ?_)
        try have u148_0 : σ148 24 1 = σ143 24 1 := by first | exact o148 1 (by decide) | exact congrFun (f148 24 (by decide)) 1
        try have u148_1 : σ148 24 2 = σ143 24 2 := by first | exact o148 2 (by decide) | exact congrFun (f148 24 (by decide)) 2
        try have u148_2 : σ148 24 3 = σ143 24 3 := by first | exact o148 3 (by decide) | exact congrFun (f148 24 (by decide)) 3
        try have u148_3 : σ148 24 4 = σ143 24 4 := by first | exact o148 4 (by decide) | exact congrFun (f148 24 (by decide)) 4
        try have u148_4 : σ148 25 2 = σ143 25 2 := by first | exact o148 2 (by decide) | exact congrFun (f148 25 (by decide)) 2
        try have u148_5 : σ148 25 3 = σ143 25 3 := by first | exact o148 3 (by decide) | exact congrFun (f148 25 (by decide)) 3
        try have u148_6 : σ148 23 2 = σ143 23 2 := by first | exact o148 2 (by decide) | exact congrFun (f148 23 (by decide)) 2
        try have u148_7 : σ148 18 2 = σ143 18 2 := by first | exact o148 2 (by decide) | exact congrFun (f148 18 (by decide)) 2
        try have u148_8 : σ148 18 3 = σ143 18 3 := by first | exact o148 3 (by decide) | exact congrFun (f148 18 (by decide)) 3
        refine pe_aload_n d_Z_writeCells_151 rfl ?_
        refine pe_aload_n d_Z_writeCells_152 rfl ?_
        refine pe_geti f_Z_46 d_Z_writeCells_153 rfl rfl 2 rfl ?_
        refine pe_iload_n d_Z_writeCells_156 rfl ?_
        refine pe_iadd d_Z_writeCells_157 ?_
        refine pe_aload_n d_Z_writeCells_158 rfl ?_
        refine pe_getr f_Z_14 d_Z_writeCells_159 rfl rfl ?_
        refine pe_geti f_Z_53 d_Z_writeCells_162 rfl rfl 2 rfl ?_
        refine pe_icmp_lt (t := 172) d_Z_writeCells_165 (by first | exact hB _ _ | exact hB0 _ _ | exact hBt _ _ | exact ⟨by omega, by omega⟩) (by first | exact hB _ _ | exact hB0 _ _ | exact hBt _ _ | exact ⟨by omega, by omega⟩) (fun h165 => ?_) (fun h165 => ?_)
        · skip
          refine pe_iconst d_Z_writeCells_172 ?_
          refine pe_putzT f_Z_29 g_10_3 d_Z_writeCells_173 rfl rfl (by first | exact Or.inl rfl | exact Or.inr rfl | omega) 3 rfl hB (fun σ173 hB e173 o173 f173 => ?_)
          try have u173_0 : σ173 24 1 = σ148 24 1 := by first | exact o173 1 (by decide) | exact congrFun (f173 24 (by decide)) 1
          try have u173_1 : σ173 24 2 = σ148 24 2 := by first | exact o173 2 (by decide) | exact congrFun (f173 24 (by decide)) 2
          try have u173_2 : σ173 24 3 = σ148 24 3 := by first | exact o173 3 (by decide) | exact congrFun (f173 24 (by decide)) 3
          try have u173_3 : σ173 24 4 = σ148 24 4 := by first | exact o173 4 (by decide) | exact congrFun (f173 24 (by decide)) 4
          try have u173_4 : σ173 25 2 = σ148 25 2 := by first | exact o173 2 (by decide) | exact congrFun (f173 25 (by decide)) 2
          try have u173_5 : σ173 25 3 = σ148 25 3 := by first | exact o173 3 (by decide) | exact congrFun (f173 25 (by decide)) 3
          try have u173_6 : σ173 23 2 = σ148 23 2 := by first | exact o173 2 (by decide) | exact congrFun (f173 23 (by decide)) 2
          try have u173_7 : σ173 18 2 = σ148 18 2 := by first | exact o173 2 (by decide) | exact congrFun (f173 18 (by decide)) 2
          try have u173_8 : σ173 18 3 = σ148 18 3 := by first | exact o173 3 (by decide) | exact congrFun (f173 18 (by decide)) 3
          refine pe_aload_n d_Z_writeCells_176 rfl ?_
          refine pe_aload_n d_Z_writeCells_177 rfl ?_
          refine pe_geti f_Z_46 d_Z_writeCells_178 rfl rfl 2 rfl ?_
          refine pe_iload_n d_Z_writeCells_181 rfl ?_
          refine pe_iadd d_Z_writeCells_182 ?_
          refine pe_aload_n d_Z_writeCells_183 rfl ?_
          refine pe_getr f_Z_14 d_Z_writeCells_184 rfl rfl ?_
          refine pe_geti f_Z_53 d_Z_writeCells_187 rfl rfl 2 rfl ?_
          refine pe_iconst d_Z_writeCells_190 ?_
          refine pe_isub d_Z_writeCells_191 ?_
          refine pe_minT c_Z_40 d_Z_writeCells_192 (by first | exact hB _ _ | exact hB0 _ _ | exact hBt _ _ | exact ⟨by omega, by omega⟩) (by first | exact hB _ _ | exact hB0 _ _ | exact hBt _ _ | exact ⟨by omega, by omega⟩) (fun z192 hz192 => ?_)
          refine pe_putiT f_Z_46 g_10_2 d_Z_writeCells_195 rfl rfl 2 rfl hB (by first | exact hB _ _ | exact hB0 _ _ | exact hBt _ _ | exact ⟨by omega, by omega⟩) (fun σ195 hB e195 o195 f195 => ?_)
          try have u195_0 : σ195 24 1 = σ173 24 1 := by first | exact o195 1 (by decide) | exact congrFun (f195 24 (by decide)) 1
          try have u195_1 : σ195 24 2 = σ173 24 2 := by first | exact o195 2 (by decide) | exact congrFun (f195 24 (by decide)) 2
          try have u195_2 : σ195 24 3 = σ173 24 3 := by first | exact o195 3 (by decide) | exact congrFun (f195 24 (by decide)) 3
          try have u195_3 : σ195 24 4 = σ173 24 4 := by first | exact o195 4 (by decide) | exact congrFun (f195 24 (by decide)) 4
          try have u195_4 : σ195 25 2 = σ173 25 2 := by first | exact o195 2 (by decide) | exact congrFun (f195 25 (by decide)) 2
          try have u195_5 : σ195 25 3 = σ173 25 3 := by first | exact o195 3 (by decide) | exact congrFun (f195 25 (by decide)) 3
          try have u195_6 : σ195 23 2 = σ173 23 2 := by first | exact o195 2 (by decide) | exact congrFun (f195 23 (by decide)) 2
          try have u195_7 : σ195 18 2 = σ173 18 2 := by first | exact o195 2 (by decide) | exact congrFun (f195 18 (by decide)) 2
          try have u195_8 : σ195 18 3 = σ173 18 3 := by first | exact o195 3 (by decide) | exact congrFun (f195 18 (by decide)) 3
          refine pe_rv d_Z_writeCells_198 ?_
          exact ⟨hB, (fun b hb => (f195 b (by simp at hb ⊢; try omega)).trans ((f173 b (by simp at hb ⊢; try omega)).trans ((f148 b (by simp at hb ⊢; try omega)).trans ((f143 b (by simp at hb ⊢; try omega)).trans ((f135 b (by simp at hb ⊢; try omega)).trans ((f100 b (by simp at hb ⊢; try omega)).trans (rfl))))))), by omega, by (try dsimp only); rw [((f195 26 (by decide)).trans ((f173 26 (by decide)).trans ((f148 26 (by decide)).trans ((f143 26 (by decide)).trans ((f135 26 (by decide)).trans (rfl))))))]; exact nz⟩
        · skip
          refine pe_iconst d_Z_writeCells_168 ?_
          refine pe_goto (t := 173) d_Z_writeCells_169 ?_
          refine pe_putzT f_Z_29 g_10_3 d_Z_writeCells_173 rfl rfl (by first | exact Or.inl rfl | exact Or.inr rfl | omega) 3 rfl hB (fun σ173 hB e173 o173 f173 => ?_)
          try have u173_0 : σ173 24 1 = σ148 24 1 := by first | exact o173 1 (by decide) | exact congrFun (f173 24 (by decide)) 1
          try have u173_1 : σ173 24 2 = σ148 24 2 := by first | exact o173 2 (by decide) | exact congrFun (f173 24 (by decide)) 2
          try have u173_2 : σ173 24 3 = σ148 24 3 := by first | exact o173 3 (by decide) | exact congrFun (f173 24 (by decide)) 3
          try have u173_3 : σ173 24 4 = σ148 24 4 := by first | exact o173 4 (by decide) | exact congrFun (f173 24 (by decide)) 4
          try have u173_4 : σ173 25 2 = σ148 25 2 := by first | exact o173 2 (by decide) | exact congrFun (f173 25 (by decide)) 2
          try have u173_5 : σ173 25 3 = σ148 25 3 := by first | exact o173 3 (by decide) | exact congrFun (f173 25 (by decide)) 3
          try have u173_6 : σ173 23 2 = σ148 23 2 := by first | exact o173 2 (by decide) | exact congrFun (f173 23 (by decide)) 2
          try have u173_7 : σ173 18 2 = σ148 18 2 := by first | exact o173 2 (by decide) | exact congrFun (f173 18 (by decide)) 2
          try have u173_8 : σ173 18 3 = σ148 18 3 := by first | exact o173 3 (by decide) | exact congrFun (f173 18 (by decide)) 3
          refine pe_aload_n d_Z_writeCells_176 rfl ?_
          refine pe_aload_n d_Z_writeCells_177 rfl ?_
          refine pe_geti f_Z_46 d_Z_writeCells_178 rfl rfl 2 rfl ?_
          refine pe_iload_n d_Z_writeCells_181 rfl ?_
          refine pe_iadd d_Z_writeCells_182 ?_
          refine pe_aload_n d_Z_writeCells_183 rfl ?_
          refine pe_getr f_Z_14 d_Z_writeCells_184 rfl rfl ?_
          refine pe_geti f_Z_53 d_Z_writeCells_187 rfl rfl 2 rfl ?_
          refine pe_iconst d_Z_writeCells_190 ?_
          refine pe_isub d_Z_writeCells_191 ?_
          refine pe_minT c_Z_40 d_Z_writeCells_192 (by first | exact hB _ _ | exact hB0 _ _ | exact hBt _ _ | exact ⟨by omega, by omega⟩) (by first | exact hB _ _ | exact hB0 _ _ | exact hBt _ _ | exact ⟨by omega, by omega⟩) (fun z192 hz192 => ?_)
          refine pe_putiT f_Z_46 g_10_2 d_Z_writeCells_195 rfl rfl 2 rfl hB (by first | exact hB _ _ | exact hB0 _ _ | exact hBt _ _ | exact ⟨by omega, by omega⟩) (fun σ195 hB e195 o195 f195 => ?_)
          try have u195_0 : σ195 24 1 = σ173 24 1 := by first | exact o195 1 (by decide) | exact congrFun (f195 24 (by decide)) 1
          try have u195_1 : σ195 24 2 = σ173 24 2 := by first | exact o195 2 (by decide) | exact congrFun (f195 24 (by decide)) 2
          try have u195_2 : σ195 24 3 = σ173 24 3 := by first | exact o195 3 (by decide) | exact congrFun (f195 24 (by decide)) 3
          try have u195_3 : σ195 24 4 = σ173 24 4 := by first | exact o195 4 (by decide) | exact congrFun (f195 24 (by decide)) 4
          try have u195_4 : σ195 25 2 = σ173 25 2 := by first | exact o195 2 (by decide) | exact congrFun (f195 25 (by decide)) 2
          try have u195_5 : σ195 25 3 = σ173 25 3 := by first | exact o195 3 (by decide) | exact congrFun (f195 25 (by decide)) 3
          try have u195_6 : σ195 23 2 = σ173 23 2 := by first | exact o195 2 (by decide) | exact congrFun (f195 23 (by decide)) 2
          try have u195_7 : σ195 18 2 = σ173 18 2 := by first | exact o195 2 (by decide) | exact congrFun (f195 18 (by decide)) 2
          try have u195_8 : σ195 18 3 = σ173 18 3 := by first | exact o195 3 (by decide) | exact congrFun (f195 18 (by decide)) 3
          refine pe_rv d_Z_writeCells_198 ?_
          exact ⟨hB, (fun b hb => (f195 b (by simp at hb ⊢; try omega)).trans ((f173 b (by simp at hb ⊢; try omega)).trans ((f148 b (by simp at hb ⊢; try omega)).trans ((f143 b (by simp at hb ⊢; try omega)).trans ((f135 b (by simp at hb ⊢; try omega)).trans ((f100 b (by simp at hb ⊢; try omega)).trans (rfl))))))), by omega, by (try dsimp only); rw [((f195 26 (by decide)).trans ((f173 26 (by decide)).trans ((f148 26 (by decide)).trans ((f143 26 (by decide)).trans ((f135 26 (by decide)).trans (rfl))))))]; exact nz⟩
      · skip
        exfalso; omega
    · skip
      exfalso; omega
  · skip
    exfalso; omega
theorem y_Z_write {σ : pe_H} {k : Int} (hB : pe_B σ) (hd : 1 ≤ σ 25 2 ∧ σ 25 2 ≤ 24 ∧ 1 ≤ σ 25 3 ∧ σ 25 3 ≤ 8) (hp : 0 ≤ σ 24 1 ∧ σ 24 1 < σ 25 3 ∧ 0 ≤ σ 24 2 ∧ σ 24 2 < σ 25 2 ∧ σ 24 3 = 0) (hz : ∀ j, 0 ≤ j → j < σ 25 2 → σ 26 (σ 24 1 * 24 + j) ≠ 0) (hk : 32 ≤ k ∧ k ≤ 126) : pe_M m_Z_write [pe_r 24, pe_i k] σ (pe_qv (fun σ' => pe_B σ' ∧ (∀ b, b ∉ [24, 26, 27] → σ' b = σ b) ∧ (σ' 24 1 = σ 24 1 ∧ σ' 24 4 = σ 24 4 ∧ (σ 24 2 + 1 < σ 25 2 → σ' 24 2 = σ 24 2 + 1 ∧ σ' 24 3 = 0)) ∧ ∀ j, 0 ≤ j → j < σ 25 2 → σ' 26 (σ 24 1 * 24 + j) ≠ 0)) := by
  refine pe_in0 (lv := [some (pe_r 24), some (pe_i k), none]) ?_
  have hB0 := hB
  refine pe_iload_n d_Z_write_0 rfl ?_
  refine pe_s1p d_Z_write_1 c_Z_20 z_C_isMark (t_C_isMark (by first | exact hB _ _ | exact hB0 _ _ | exact hBt _ _ | exact ⟨by omega, by omega⟩)) (fun z1 hz1 => ?_)
  refine pe_if_eq (t := 16) d_Z_write_4 (by first | exact hB _ _ | exact hB0 _ _ | exact hBt _ _ | exact ⟨by omega, by omega⟩) (fun h4 => ?_) (fun h4 => ?_)
  · skip
    refine pe_aload_n d_Z_write_16 rfl ?_
    refine pe_geti f_Z_29 d_Z_write_17 rfl rfl 3 rfl ?_
    refine pe_if_eq (t := 50) d_Z_write_20 (by first | exact hB _ _ | exact hB0 _ _ | exact hBt _ _ | exact ⟨by omega, by omega⟩) (fun h20 => ?_) (fun h20 => ?_)
    · skip
      refine pe_aload_n d_Z_write_50 rfl ?_
      refine pe_geti f_Z_46 d_Z_write_51 rfl rfl 2 rfl ?_
      refine pe_iload_n d_Z_write_54 rfl ?_
      refine pe_s1p d_Z_write_55 c_Z_49 z_C_widthOf (t_C_widthOf (by first | exact hB _ _ | exact hB0 _ _ | exact hBt _ _ | exact ⟨by omega, by omega⟩)) (fun z55 hz55 => ?_)
      refine pe_iadd d_Z_write_58 ?_
      refine pe_aload_n d_Z_write_59 rfl ?_
      refine pe_getr f_Z_14 d_Z_write_60 rfl rfl ?_
      refine pe_geti f_Z_53 d_Z_write_63 rfl rfl 2 rfl ?_
      refine pe_icmp_gt (t := 73) d_Z_write_66 (by first | exact hB _ _ | exact hB0 _ _ | exact hBt _ _ | exact ⟨by omega, by omega⟩) (by first | exact hB _ _ | exact hB0 _ _ | exact hBt _ _ | exact ⟨by omega, by omega⟩) (fun h66 => ?_) (fun h66 => ?_)
      · skip
        exfalso; omega
      · skip
        refine pe_iconst d_Z_write_69 ?_
        refine pe_goto (t := 74) d_Z_write_70 ?_
        refine pe_istore_n d_Z_write_74 ?_
        refine pe_aload_n d_Z_write_75 rfl ?_
        refine pe_iload_n d_Z_write_76 rfl ?_
        refine pe_if_eq (t := 84) d_Z_write_77 (by first | exact hB _ _ | exact hB0 _ _ | exact hBt _ _ | exact ⟨by omega, by omega⟩) (fun h77 => ?_) (fun h77 => ?_)
        · skip
          exfalso; omega
        · skip
          refine pe_iload_n d_Z_write_80 rfl ?_
          refine pe_goto (t := 86) d_Z_write_81 ?_
          refine pe_v1v d_Z_write_86 c_Z_56 i_Z_writeCells s_Z_writeCells rfl rfl (y_Z_writeCells hB (by omega) (by omega) hz (by omega)) (fun σ86 hz86 => ?_)
          obtain ⟨hB, f86, x86⟩ := hz86
          try have u86_0 : σ86 24 1 = σ 24 1 := by first | exact o86 1 (by decide) | exact congrFun (f86 24 (by decide)) 1
          try have u86_1 : σ86 24 2 = σ 24 2 := by first | exact o86 2 (by decide) | exact congrFun (f86 24 (by decide)) 2
          try have u86_2 : σ86 24 3 = σ 24 3 := by first | exact o86 3 (by decide) | exact congrFun (f86 24 (by decide)) 3
          try have u86_3 : σ86 24 4 = σ 24 4 := by first | exact o86 4 (by decide) | exact congrFun (f86 24 (by decide)) 4
          try have u86_4 : σ86 25 2 = σ 25 2 := by first | exact o86 2 (by decide) | exact congrFun (f86 25 (by decide)) 2
          try have u86_5 : σ86 25 3 = σ 25 3 := by first | exact o86 3 (by decide) | exact congrFun (f86 25 (by decide)) 3
          try have u86_6 : σ86 23 2 = σ 23 2 := by first | exact o86 2 (by decide) | exact congrFun (f86 23 (by decide)) 2
          try have u86_7 : σ86 18 2 = σ 18 2 := by first | exact o86 2 (by decide) | exact congrFun (f86 18 (by decide)) 2
          try have u86_8 : σ86 18 3 = σ 18 3 := by first | exact o86 3 (by decide) | exact congrFun (f86 18 (by decide)) 3
          refine pe_rv d_Z_write_89 ?_
          exact ⟨hB, (fun b hb => (f86 b (by simp at hb ⊢; try omega)).trans (rfl)), x86⟩
    · skip
      exfalso; omega
  · skip
    exfalso; omega
theorem y_Q_sendCharacter {σ : pe_H} {k : Int} (hB : pe_B σ) (hq : 0 ≤ σ 23 2 ∧ σ 23 2 ≤ 2000) (hd : 1 ≤ σ 25 2 ∧ σ 25 2 ≤ 24 ∧ 1 ≤ σ 25 3 ∧ σ 25 3 ≤ 8) (hp : 0 ≤ σ 24 1 ∧ σ 24 1 < σ 25 3 ∧ 0 ≤ σ 24 2 ∧ σ 24 2 < σ 25 2 ∧ σ 24 3 = 0) (hz : ∀ j, 0 ≤ j → j < σ 25 2 → σ 26 (σ 24 1 * 24 + j) ≠ 0) (hk : 32 ≤ k ∧ k ≤ 126) : pe_M m_Q_sendCharacter [pe_r 23, pe_i k] σ (pe_qv (fun σ' => pe_B σ' ∧ (∀ b, b ∉ [23, 24, 26, 27, 28] → σ' b = σ b) ∧ σ' 23 2 = σ 23 2 + 1 ∧ (σ' 24 1 = σ 24 1 ∧ σ' 24 4 = σ 24 4 ∧ (σ 24 2 + 1 < σ 25 2 → σ' 24 2 = σ 24 2 + 1 ∧ σ' 24 3 = 0)) ∧ ∀ j, 0 ≤ j → j < σ 25 2 → σ' 26 (σ 24 1 * 24 + j) ≠ 0)) := by
  refine pe_in0 (lv := [some (pe_r 23), some (pe_i k)]) ?_
  have hB0 := hB
  refine pe_iload_n d_Q_sendCharacter_0 rfl ?_
  refine pe_iconst d_Q_sendCharacter_1 ?_
  refine pe_icmp_ne (t := 6) d_Q_sendCharacter_2 (by first | exact hB _ _ | exact hB0 _ _ | exact hBt _ _ | exact ⟨by omega, by omega⟩) (by first | exact hB _ _ | exact hB0 _ _ | exact hBt _ _ | exact ⟨by omega, by omega⟩) (fun h2 => ?_) (fun h2 => ?_)
  · skip
    refine pe_iload_n d_Q_sendCharacter_6 rfl ?_
    refine pe_sipush d_Q_sendCharacter_7 ?_
    refine pe_icmp_ge (t := 21) d_Q_sendCharacter_10 (by first | exact hB _ _ | exact hB0 _ _ | exact hBt _ _ | exact ⟨by omega, by omega⟩) (by first | exact hB _ _ | exact hB0 _ _ | exact hBt _ _ | exact ⟨by omega, by omega⟩) (fun h10 => ?_) (fun h10 => ?_)
    · skip
      exfalso; omega
    · skip
      refine pe_aload_n d_Q_sendCharacter_13 rfl ?_
      refine pe_iload_n d_Q_sendCharacter_14 rfl ?_
      refine pe_any (fun v15 hv15 => ?_)
      refine pe_v1v d_Q_sendCharacter_15 c_Q_126 i_Q_put s_Q_put rfl rfl (y_Q_put hB (by omega) (by first | exact hB _ _ | exact hB0 _ _ | exact hBt _ _ | exact ⟨by omega, by omega⟩)) (fun σ15 hz15 => ?_)
      obtain ⟨hB, f15, x15⟩ := hz15
      try have u15_0 : σ15 24 1 = σ 24 1 := by first | exact o15 1 (by decide) | exact congrFun (f15 24 (by decide)) 1
      try have u15_1 : σ15 24 2 = σ 24 2 := by first | exact o15 2 (by decide) | exact congrFun (f15 24 (by decide)) 2
      try have u15_2 : σ15 24 3 = σ 24 3 := by first | exact o15 3 (by decide) | exact congrFun (f15 24 (by decide)) 3
      try have u15_3 : σ15 24 4 = σ 24 4 := by first | exact o15 4 (by decide) | exact congrFun (f15 24 (by decide)) 4
      try have u15_4 : σ15 25 2 = σ 25 2 := by first | exact o15 2 (by decide) | exact congrFun (f15 25 (by decide)) 2
      try have u15_5 : σ15 25 3 = σ 25 3 := by first | exact o15 3 (by decide) | exact congrFun (f15 25 (by decide)) 3
      try have u15_6 : σ15 23 2 = σ 23 2 := by first | exact o15 2 (by decide) | exact congrFun (f15 23 (by decide)) 2
      try have u15_7 : σ15 18 2 = σ 18 2 := by first | exact o15 2 (by decide) | exact congrFun (f15 18 (by decide)) 2
      try have u15_8 : σ15 18 3 = σ 18 3 := by first | exact o15 3 (by decide) | exact congrFun (f15 18 (by decide)) 3
      have e24 := f15 24 (by decide)
      have e25 := f15 25 (by decide)
      have e26 := f15 26 (by decide)
      have hz1 : ∀ j, 0 ≤ j → j < σ15 25 2 → σ15 26 (σ15 24 1 * 24 + j) ≠ 0 := by rw [e24, e25, e26]; exact hz
      refine pe_goto (t := 95) d_Q_sendCharacter_18 ?_
      refine pe_aload_n d_Q_sendCharacter_95 rfl ?_
      refine pe_getr f_Q_20 d_Q_sendCharacter_96 rfl rfl ?_
      refine pe_iload_n d_Q_sendCharacter_99 rfl ?_
      refine pe_v1v d_Q_sendCharacter_100 c_Q_132 i_Z_write s_Z_write rfl rfl (y_Z_write hB (by omega) (by omega) hz1 (by omega)) (fun σ100 hz100 => ?_)
      obtain ⟨hB, f100, x100⟩ := hz100
      try have u100_0 : σ100 24 1 = σ15 24 1 := by first | exact o100 1 (by decide) | exact congrFun (f100 24 (by decide)) 1
      try have u100_1 : σ100 24 2 = σ15 24 2 := by first | exact o100 2 (by decide) | exact congrFun (f100 24 (by decide)) 2
      try have u100_2 : σ100 24 3 = σ15 24 3 := by first | exact o100 3 (by decide) | exact congrFun (f100 24 (by decide)) 3
      try have u100_3 : σ100 24 4 = σ15 24 4 := by first | exact o100 4 (by decide) | exact congrFun (f100 24 (by decide)) 4
      try have u100_4 : σ100 25 2 = σ15 25 2 := by first | exact o100 2 (by decide) | exact congrFun (f100 25 (by decide)) 2
      try have u100_5 : σ100 25 3 = σ15 25 3 := by first | exact o100 3 (by decide) | exact congrFun (f100 25 (by decide)) 3
      try have u100_6 : σ100 23 2 = σ15 23 2 := by first | exact o100 2 (by decide) | exact congrFun (f100 23 (by decide)) 2
      try have u100_7 : σ100 18 2 = σ15 18 2 := by first | exact o100 2 (by decide) | exact congrFun (f100 18 (by decide)) 2
      try have u100_8 : σ100 18 3 = σ15 18 3 := by first | exact o100 3 (by decide) | exact congrFun (f100 18 (by decide)) 3
      rw [e24, e25] at x100
      refine pe_rv d_Q_sendCharacter_103 ?_
      exact ⟨hB, (fun b hb => (f100 b (by simp at hb ⊢; try omega)).trans ((f15 b (by simp at hb ⊢; try omega)).trans (rfl))), by omega, x100⟩
  · skip
    exfalso; omega
theorem y_Q_sendCharacterN {σ : pe_H} {k : Int} (hk : k = -1) : pe_M m_Q_sendCharacter [pe_r 23, pe_i k] σ (pe_qv (fun σ' => σ' = σ)) := by
  refine pe_in0 (lv := [some (pe_r 23), some (pe_i k)]) ?_
  refine pe_iload_n d_Q_sendCharacter_0 rfl ?_
  refine pe_iconst d_Q_sendCharacter_1 ?_
  refine pe_icmp_ne (t := 6) d_Q_sendCharacter_2 (by first | exact hB _ _ | exact hB0 _ _ | exact hBt _ _ | exact ⟨by omega, by omega⟩) (by first | exact hB _ _ | exact hB0 _ _ | exact hBt _ _ | exact ⟨by omega, by omega⟩) (fun h2 => ?_) (fun h2 => ?_)
  · skip
    exfalso; omega
  · skip
    refine pe_rv d_Q_sendCharacter_5 ?_
    rfl
set_option maxHeartbeats 2000000 in
theorem y_Q_sendCluster {σ : pe_H} {r c u w : Int} (hB : pe_B σ) (hq : 0 ≤ σ 23 2 ∧ σ 23 2 ≤ 1900) (hd : 1 ≤ σ 25 2 ∧ σ 25 2 ≤ 24 ∧ 1 ≤ σ 25 3 ∧ σ 25 3 ≤ 8) (hr : 0 ≤ r ∧ r < σ 25 3) (hc : 0 ≤ c ∧ c < σ 25 2) (hz : ∀ j, 0 ≤ j → j < σ 25 2 → σ 26 (r * 24 + j) ≠ 0) (hu : 32 ≤ u ∧ u ≤ 126) (hw : w = 1) (ha : (σ 24 1 = r ∧ σ 24 2 = c ∧ σ 24 3 = 0 ∧ σ 24 4 = 1) ∨ (σ 24 1 ≠ r ∧ c = 0 ∧ 0 ≤ σ 24 1 ∧ σ 24 1 ≤ 7 ∧ σ 24 4 = 0)) : pe_M m_Q_sendCluster [pe_r 23, pe_i r, pe_i c, pe_i u, pe_i w] σ (pe_qv (fun σ' => pe_B σ' ∧ (∀ b, b ∉ [23, 24, 26, 27, 28] → σ' b = σ b) ∧ (σ' 24 1 = r ∧ σ' 24 4 = 1 ∧ (c + 1 < σ 25 2 → σ' 24 2 = c + 1 ∧ σ' 24 3 = 0)) ∧ (∀ j, 0 ≤ j → j < σ 25 2 → σ' 26 (r * 24 + j) ≠ 0) ∧ ((σ 24 1 = r ∧ σ' 23 2 = σ 23 2 + 1) ∨ (σ 24 1 ≠ r ∧ r = σ 24 1 + 1 ∧ σ' 23 2 = σ 23 2 + 9) ∨ (σ 24 1 ≠ r ∧ r ≠ σ 24 1 + 1 ∧ σ' 23 2 = σ 23 2 + 13)))) := by
  refine pe_in0 (lv := [some (pe_r 23), some (pe_i r), some (pe_i c), some (pe_i u), some (pe_i w), none]) ?_
  have hB0 := hB
  refine pe_iload_n d_Q_sendCluster_0 rfl ?_
  refine pe_s1p d_Q_sendCluster_1 c_Q_88 z_C_characterOf (y_C_characterOf (by omega)) (fun z1 hz1 => ?_)
  skip
  refine pe_istore d_Q_sendCluster_4 ?_
  refine pe_iload d_Q_sendCluster_6 rfl ?_
  refine pe_s1p d_Q_sendCluster_8 c_Q_94 z_C_isMark (t_C_isMark (by first | exact hB _ _ | exact hB0 _ _ | exact hBt _ _ | exact ⟨by omega, by omega⟩)) (fun z8 hz8 => ?_)
  refine pe_if_eq (t := 23) d_Q_sendCluster_11 (by first | exact hB _ _ | exact hB0 _ _ | exact hBt _ _ | exact ⟨by omega, by omega⟩) (fun h11 => ?_) (fun h11 => ?_)
  · skip
    refine pe_aload_n d_Q_sendCluster_23 rfl ?_
    refine pe_iload_n d_Q_sendCluster_24 rfl ?_
    refine pe_iload_n d_Q_sendCluster_25 rfl ?_
    refine pe_v2v d_Q_sendCluster_26 c_Q_67 i_Q_makePlaceRight s_Q_makePlaceRight rfl rfl (y_Q_mpr hB (by omega) (by omega) (by omega) (by omega)) (fun σ26 hz26 => ?_)
    obtain ⟨hB, f26, x26⟩ := hz26
    try have u26_0 : σ26 24 1 = σ 24 1 := by first | exact o26 1 (by decide) | exact congrFun (f26 24 (by decide)) 1
    try have u26_1 : σ26 24 2 = σ 24 2 := by first | exact o26 2 (by decide) | exact congrFun (f26 24 (by decide)) 2
    try have u26_2 : σ26 24 3 = σ 24 3 := by first | exact o26 3 (by decide) | exact congrFun (f26 24 (by decide)) 3
    try have u26_3 : σ26 24 4 = σ 24 4 := by first | exact o26 4 (by decide) | exact congrFun (f26 24 (by decide)) 4
    try have u26_4 : σ26 25 2 = σ 25 2 := by first | exact o26 2 (by decide) | exact congrFun (f26 25 (by decide)) 2
    try have u26_5 : σ26 25 3 = σ 25 3 := by first | exact o26 3 (by decide) | exact congrFun (f26 25 (by decide)) 3
    try have u26_6 : σ26 23 2 = σ 23 2 := by first | exact o26 2 (by decide) | exact congrFun (f26 23 (by decide)) 2
    try have u26_7 : σ26 18 2 = σ 18 2 := by first | exact o26 2 (by decide) | exact congrFun (f26 18 (by decide)) 2
    try have u26_8 : σ26 18 3 = σ 18 3 := by first | exact o26 3 (by decide) | exact congrFun (f26 18 (by decide)) 3
    obtain ⟨x26, d26, y26⟩ := x26
    refine pe_aload_n d_Q_sendCluster_29 rfl ?_
    refine pe_getr f_Q_20 d_Q_sendCluster_30 rfl rfl ?_
    refine pe_geti f_Q_101 d_Q_sendCluster_33 rfl rfl 4 rfl ?_
    refine pe_iload d_Q_sendCluster_36 rfl ?_
    refine pe_icmp_eq (t := 47) d_Q_sendCluster_38 (by first | exact hB _ _ | exact hB0 _ _ | exact hBt _ _ | exact ⟨by omega, by omega⟩) (by first | exact hB _ _ | exact hB0 _ _ | exact hBt _ _ | exact ⟨by omega, by omega⟩) (fun h38 => ?_) (fun h38 => ?_)
    · skip
      have e25 : σ26 25 = σ 25 := ((f26 25 (by decide)).trans (rfl))
      have e26 : σ26 26 = σ 26 := ((f26 26 (by decide)).trans (rfl))
      have h24 : σ26 24 1 = r := by omega
      have hzz : ∀ j, 0 ≤ j → j < σ26 25 2 → σ26 26 (σ26 24 1 * 24 + j) ≠ 0 := by rw [h24, e25, e26]; exact hz
      refine pe_aload_n d_Q_sendCluster_47 rfl ?_
      refine pe_iload d_Q_sendCluster_48 rfl ?_
      refine pe_v1v d_Q_sendCluster_50 c_Q_104 i_Q_sendCharacter s_Q_sendCharacter rfl rfl (y_Q_sendCharacter hB (by omega) (by omega) (by omega) hzz (by omega)) (fun σ50 hz50 => ?_)
      obtain ⟨hB, f50, x50⟩ := hz50
      try have u50_0 : σ50 24 1 = σ26 24 1 := by first | exact o50 1 (by decide) | exact congrFun (f50 24 (by decide)) 1
      try have u50_1 : σ50 24 2 = σ26 24 2 := by first | exact o50 2 (by decide) | exact congrFun (f50 24 (by decide)) 2
      try have u50_2 : σ50 24 3 = σ26 24 3 := by first | exact o50 3 (by decide) | exact congrFun (f50 24 (by decide)) 3
      try have u50_3 : σ50 24 4 = σ26 24 4 := by first | exact o50 4 (by decide) | exact congrFun (f50 24 (by decide)) 4
      try have u50_4 : σ50 25 2 = σ26 25 2 := by first | exact o50 2 (by decide) | exact congrFun (f50 25 (by decide)) 2
      try have u50_5 : σ50 25 3 = σ26 25 3 := by first | exact o50 3 (by decide) | exact congrFun (f50 25 (by decide)) 3
      try have u50_6 : σ50 23 2 = σ26 23 2 := by first | exact o50 2 (by decide) | exact congrFun (f50 23 (by decide)) 2
      try have u50_7 : σ50 18 2 = σ26 18 2 := by first | exact o50 2 (by decide) | exact congrFun (f50 18 (by decide)) 2
      try have u50_8 : σ50 18 3 = σ26 18 3 := by first | exact o50 3 (by decide) | exact congrFun (f50 18 (by decide)) 3
      refine pe_aload_n d_Q_sendCluster_53 rfl ?_
      refine pe_iload_n d_Q_sendCluster_54 rfl ?_
      refine pe_s1p d_Q_sendCluster_55 c_Q_107 z_C_firstMarkOf (y_C_firstMarkOf (by omega)) (fun z55 hz55 => ?_)
      skip
      refine pe_v1v d_Q_sendCluster_58 c_Q_104 i_Q_sendCharacter s_Q_sendCharacter rfl rfl (y_Q_sendCharacterN (by omega)) (fun σ58 hz58 => ?_)
      rw [hz58]
      refine pe_aload_n d_Q_sendCluster_61 rfl ?_
      refine pe_iload_n d_Q_sendCluster_62 rfl ?_
      refine pe_s1p d_Q_sendCluster_63 c_Q_110 z_C_secondMarkOf (y_C_secondMarkOf (by omega)) (fun z63 hz63 => ?_)
      skip
      refine pe_v1v d_Q_sendCluster_66 c_Q_104 i_Q_sendCharacter s_Q_sendCharacter rfl rfl (y_Q_sendCharacterN (by omega)) (fun σ66 hz66 => ?_)
      rw [hz66]
      refine pe_rv d_Q_sendCluster_69 ?_
      exact ⟨hB, (fun b hb => (f50 b (by simp at hb ⊢; try omega)).trans ((f26 b (by simp at hb ⊢; try omega)).trans (rfl))), by (try dsimp only); rw [e25] at x50; omega, by have q := x50.2.2; rw [h24, e25] at q; exact q, by (try dsimp only); rw [e25] at x50; omega⟩
    · skip
      refine pe_aload_n d_Q_sendCluster_41 rfl ?_
      refine pe_iload d_Q_sendCluster_42 rfl ?_
      refine pe_v1v d_Q_sendCluster_44 c_Q_28 i_Q_sendLook s_Q_sendLook rfl rfl (y_Q_sendLook hB (by omega) (by omega)) (fun σ44 hz44 => ?_)
      obtain ⟨hB, f44, x44⟩ := hz44
      try have u44_0 : σ44 24 1 = σ26 24 1 := by first | exact o44 1 (by decide) | exact congrFun (f44 24 (by decide)) 1
      try have u44_1 : σ44 24 2 = σ26 24 2 := by first | exact o44 2 (by decide) | exact congrFun (f44 24 (by decide)) 2
      try have u44_2 : σ44 24 3 = σ26 24 3 := by first | exact o44 3 (by decide) | exact congrFun (f44 24 (by decide)) 3
      try have u44_3 : σ44 24 4 = σ26 24 4 := by first | exact o44 4 (by decide) | exact congrFun (f44 24 (by decide)) 4
      try have u44_4 : σ44 25 2 = σ26 25 2 := by first | exact o44 2 (by decide) | exact congrFun (f44 25 (by decide)) 2
      try have u44_5 : σ44 25 3 = σ26 25 3 := by first | exact o44 3 (by decide) | exact congrFun (f44 25 (by decide)) 3
      try have u44_6 : σ44 23 2 = σ26 23 2 := by first | exact o44 2 (by decide) | exact congrFun (f44 23 (by decide)) 2
      try have u44_7 : σ44 18 2 = σ26 18 2 := by first | exact o44 2 (by decide) | exact congrFun (f44 18 (by decide)) 2
      try have u44_8 : σ44 18 3 = σ26 18 3 := by first | exact o44 3 (by decide) | exact congrFun (f44 18 (by decide)) 3
      have l1 := x44.2.2 1 (by decide)
      have l2 := x44.2.2 2 (by decide)
      have l3 := x44.2.2 3 (by decide)
      have e25 : σ44 25 = σ 25 := ((f44 25 (by decide)).trans ((f26 25 (by decide)).trans (rfl)))
      have e26 : σ44 26 = σ 26 := ((f44 26 (by decide)).trans ((f26 26 (by decide)).trans (rfl)))
      have h24 : σ44 24 1 = r := by omega
      have hzz : ∀ j, 0 ≤ j → j < σ44 25 2 → σ44 26 (σ44 24 1 * 24 + j) ≠ 0 := by rw [h24, e25, e26]; exact hz
      refine pe_aload_n d_Q_sendCluster_47 rfl ?_
      refine pe_iload d_Q_sendCluster_48 rfl ?_
      refine pe_v1v d_Q_sendCluster_50 c_Q_104 i_Q_sendCharacter s_Q_sendCharacter rfl rfl (y_Q_sendCharacter hB (by omega) (by omega) (by omega) hzz (by omega)) (fun σ50 hz50 => ?_)
      obtain ⟨hB, f50, x50⟩ := hz50
      try have u50_0 : σ50 24 1 = σ44 24 1 := by first | exact o50 1 (by decide) | exact congrFun (f50 24 (by decide)) 1
      try have u50_1 : σ50 24 2 = σ44 24 2 := by first | exact o50 2 (by decide) | exact congrFun (f50 24 (by decide)) 2
      try have u50_2 : σ50 24 3 = σ44 24 3 := by first | exact o50 3 (by decide) | exact congrFun (f50 24 (by decide)) 3
      try have u50_3 : σ50 24 4 = σ44 24 4 := by first | exact o50 4 (by decide) | exact congrFun (f50 24 (by decide)) 4
      try have u50_4 : σ50 25 2 = σ44 25 2 := by first | exact o50 2 (by decide) | exact congrFun (f50 25 (by decide)) 2
      try have u50_5 : σ50 25 3 = σ44 25 3 := by first | exact o50 3 (by decide) | exact congrFun (f50 25 (by decide)) 3
      try have u50_6 : σ50 23 2 = σ44 23 2 := by first | exact o50 2 (by decide) | exact congrFun (f50 23 (by decide)) 2
      try have u50_7 : σ50 18 2 = σ44 18 2 := by first | exact o50 2 (by decide) | exact congrFun (f50 18 (by decide)) 2
      try have u50_8 : σ50 18 3 = σ44 18 3 := by first | exact o50 3 (by decide) | exact congrFun (f50 18 (by decide)) 3
      refine pe_aload_n d_Q_sendCluster_53 rfl ?_
      refine pe_iload_n d_Q_sendCluster_54 rfl ?_
      refine pe_s1p d_Q_sendCluster_55 c_Q_107 z_C_firstMarkOf (y_C_firstMarkOf (by omega)) (fun z55 hz55 => ?_)
      skip
      refine pe_v1v d_Q_sendCluster_58 c_Q_104 i_Q_sendCharacter s_Q_sendCharacter rfl rfl (y_Q_sendCharacterN (by omega)) (fun σ58 hz58 => ?_)
      rw [hz58]
      refine pe_aload_n d_Q_sendCluster_61 rfl ?_
      refine pe_iload_n d_Q_sendCluster_62 rfl ?_
      refine pe_s1p d_Q_sendCluster_63 c_Q_110 z_C_secondMarkOf (y_C_secondMarkOf (by omega)) (fun z63 hz63 => ?_)
      skip
      refine pe_v1v d_Q_sendCluster_66 c_Q_104 i_Q_sendCharacter s_Q_sendCharacter rfl rfl (y_Q_sendCharacterN (by omega)) (fun σ66 hz66 => ?_)
      rw [hz66]
      refine pe_rv d_Q_sendCluster_69 ?_
      exact ⟨hB, (fun b hb => (f50 b (by simp at hb ⊢; try omega)).trans ((f44 b (by simp at hb ⊢; try omega)).trans ((f26 b (by simp at hb ⊢; try omega)).trans (rfl)))), by (try dsimp only); rw [e25] at x50; omega, by have q := x50.2.2; rw [h24, e25] at q; exact q, by (try dsimp only); rw [e25] at x50; omega⟩
  · skip
    exfalso; omega
theorem y_Q_paintRow0 {σ : pe_H} {r : Int} (hB : pe_B σ) (hw : 1 ≤ σ 18 2 ∧ σ 18 2 ≤ 24 ∧ 1 ≤ σ 18 3 ∧ σ 18 3 ≤ 8) (hq : σ 25 2 = σ 18 2 ∧ σ 25 3 = σ 18 3) (hr : 0 ≤ r ∧ r < σ 18 3) (he : ∀ c, 0 ≤ c → c < σ 18 2 → σ 19 (r * 24 + c) = σ 26 (r * 24 + c) ∧ σ 20 (r * 24 + c) = σ 27 (r * 24 + c)) : pe_M m_Q_paintRow [pe_r 23, pe_r 18, pe_i r] σ (pe_qv (fun σ' => σ' = σ)) := by
  refine pe_in0 (lv := [some (pe_r 23), some (pe_r 18), some (pe_i r), none, none, none, none, none, none, none]) ?_
  have hB0 := hB
  refine pe_aload_n d_Q_paintRow_0 rfl ?_
  refine pe_aload_n d_Q_paintRow_1 rfl ?_
  refine pe_iload_n d_Q_paintRow_2 rfl ?_
  refine pe_v2p d_Q_paintRow_3 c_Q_39 i_Q_firstDifference s_Q_firstDifference rfl rfl (y_Q_fd0 hB (by omega) (by omega) (by omega) he) (fun z3 hz3 => ?_)
  refine pe_istore_n d_Q_paintRow_6 ?_
  refine pe_iload_n d_Q_paintRow_7 rfl ?_
  refine pe_iconst d_Q_paintRow_8 ?_
  refine pe_icmp_ne (t := 13) d_Q_paintRow_9 (by first | exact hB _ _ | exact hB0 _ _ | exact hBt _ _ | exact ⟨by omega, by omega⟩) (by first | exact hB _ _ | exact hB0 _ _ | exact hBt _ _ | exact ⟨by omega, by omega⟩) (fun h9 => ?_) (fun h9 => ?_)
  · skip
    exfalso; omega
  · skip
    refine pe_rv d_Q_paintRow_12 ?_
    rfl
theorem y_Q_paintRow1 {σ : pe_H} {r : Int} (hB : pe_B σ) (hq : 0 ≤ σ 23 2 ∧ σ 23 2 ≤ 1000) (hw : 1 ≤ σ 18 2 ∧ σ 18 2 ≤ 24 ∧ 1 ≤ σ 18 3 ∧ σ 18 3 ≤ 8) (hdm : σ 25 2 = σ 18 2 ∧ σ 25 3 = σ 18 3) (hr : 1 ≤ r ∧ r < σ 18 3) (hs : ∀ c, 0 ≤ c → c < σ 18 2 → (32 ≤ σ 19 (r * 24 + c) ∧ σ 19 (r * 24 + c) ≤ 126) ∧ σ 20 (r * 24 + c) = 1) (hb : ∀ c, 0 ≤ c → c < σ 18 2 → σ 26 (r * 24 + c) = 32 ∧ σ 27 (r * 24 + c) = 0) (hp : σ 24 1 = 0 ∧ σ 24 2 = 0 ∧ σ 24 3 = 0 ∧ σ 24 4 = 0) : pe_M m_Q_paintRow [pe_r 23, pe_r 18, pe_i r] σ (pe_qv (fun σ' => pe_B σ' ∧ (∀ b, b ∉ [23, 24, 26, 27, 28] → σ' b = σ b) ∧ σ' 24 1 = r ∧ ((r = 1 ∧ σ' 23 2 = σ 23 2 + 8 + σ 18 2) ∨ (r ≠ 1 ∧ σ' 23 2 = σ 23 2 + 12 + σ 18 2)))) := by
  refine pe_in0 (lv := [some (pe_r 23), some (pe_r 18), some (pe_i r), none, none, none, none, none, none, none]) ?_
  have hB0 := hB
  have s0 := hs 0 (by omega) (by omega)
  have b0 := hb 0 (by omega) (by omega)
  have s1 := hs (σ 18 2 - 1) (by omega) (by omega)
  have b1 := hb (σ 18 2 - 1) (by omega) (by omega)
  have n0 : σ 20 (r * 24 + 0) ≠ σ 27 (r * 24 + 0) := by omega
  have n1 : σ 20 (r * 24 + (σ 18 2 - 1)) ≠ σ 27 (r * 24 + (σ 18 2 - 1)) := by omega
  have J89 : ∀ x : Int × Int × pe_H, (pe_B x.2.2 ∧ (∀ b, b ∉ [23, 24, 26, 27, 28] → x.2.2 b = σ b) ∧ (∀ j, 0 ≤ j → j < σ 18 2 → x.2.2 26 (r * 24 + j) ≠ 0) ∧ (0 ≤ x.1 ∧ x.1 ≤ σ 18 2) ∧ ((x.1 = 0 ∧ x.2.2 24 1 = 0 ∧ x.2.2 24 2 = 0 ∧ x.2.2 24 3 = 0 ∧ x.2.2 24 4 = 0 ∧ x.2.2 23 2 = σ 23 2) ∨ (1 ≤ x.1 ∧ x.2.2 24 1 = r ∧ x.2.2 24 4 = 1 ∧ (x.1 < σ 18 2 → x.2.2 24 2 = x.1 ∧ x.2.2 24 3 = 0) ∧ ((r = 1 ∧ x.2.2 23 2 = σ 23 2 + 8 + x.1) ∨ (r ≠ 1 ∧ x.2.2 23 2 = σ 23 2 + 12 + x.1))))) → pe_G m_Q_paintRow 89 [some (pe_r 23), some (pe_r 18), some (pe_i r), some (pe_i 0), some (pe_i (σ 18 2 - 1)), some (pe_i (σ 18 2)), some (pe_i x.2.1), some (pe_i 0), some (pe_i (σ 18 2 - 1)), some (pe_i x.1)] [] x.2.2 (pe_qv (fun σ' => pe_B σ' ∧ (∀ b, b ∉ [23, 24, 26, 27, 28] → σ' b = σ b) ∧ σ' 24 1 = r ∧ ((r = 1 ∧ σ' 23 2 = σ 23 2 + 8 + σ 18 2) ∨ (r ≠ 1 ∧ σ' 23 2 = σ 23 2 + 12 + σ 18 2)))) := by
    refine pe_loop (fun x : Int × Int × pe_H => (100 - x.1).toNat) _ _ ?_
    intro x hI ih
    obtain ⟨k, m, τ⟩ := x
    dsimp only at hI ⊢
    obtain ⟨hB, hfr, hX⟩ := hI
    have v_18_2 : τ 18 2 = σ 18 2 := congrFun (hfr 18 (by decide)) 2
    have v_18_3 : τ 18 3 = σ 18 3 := congrFun (hfr 18 (by decide)) 3
    have v_25_2 : τ 25 2 = σ 25 2 := congrFun (hfr 25 (by decide)) 2
    have v_25_3 : τ 25 3 = σ 25 3 := congrFun (hfr 25 (by decide)) 3
    obtain ⟨hz, hX⟩ := hX
    have g19 := hfr 19 (by decide)
    have g20 := hfr 20 (by decide)
    have hBt := hB
    refine pe_iload d_Q_paintRow_89 rfl ?_
    refine pe_iload d_Q_paintRow_91 rfl ?_
    refine pe_icmp_gt (t := 133) d_Q_paintRow_93 (by first | exact hB _ _ | exact hB0 _ _ | exact hBt _ _ | exact ⟨by omega, by omega⟩) (by first | exact hB _ _ | exact hB0 _ _ | exact hBt _ _ | exact ⟨by omega, by omega⟩) (fun h93 => ?_) (fun h93 => ?_)
    · skip
      refine pe_iload d_Q_paintRow_133 rfl ?_
      refine pe_if_eq (t := 160) d_Q_paintRow_135 (by first | exact hB _ _ | exact hB0 _ _ | exact hBt _ _ | exact ⟨by omega, by omega⟩) (fun h135 => ?_) (fun h135 => ?_)
      · skip
        refine pe_rv d_Q_paintRow_160 ?_
        exact ⟨hB, (fun b hb => hfr b (by simp at hb ⊢; try omega)), by omega⟩
      · skip
        exfalso; omega
    · skip
      refine pe_aload_n d_Q_paintRow_96 rfl ?_
      refine pe_iload_n d_Q_paintRow_97 rfl ?_
      refine pe_iload d_Q_paintRow_98 rfl ?_
      refine pe_v2p d_Q_paintRow_100 c_Q_46 i_G_clusterAt s_G_clusterAt rfl rfl (y_G_clusterAt_18 hB (by omega) (by omega)) (fun z100 hz100 => ?_)
      have hR100 : pe_R z100 := by rw [hz100]; exact hB _ _
      have sk := hs k (by omega) (by omega)
      have ek : z100 = σ 19 (r * 24 + k) := by rw [hz100, g19]
      refine pe_if_eq (t := 127) d_Q_paintRow_103 (by first | exact hB _ _ | exact hB0 _ _ | exact hBt _ _ | exact ⟨by omega, by omega⟩) (fun h103 => ?_) (fun h103 => ?_)
      · skip
        refine pe_iinc d_Q_paintRow_127 rfl ?_
        refine pe_goto (t := 89) d_Q_paintRow_130 ?_
        first | (exfalso; omega) | exact ih (_, _, _) ⟨hB, (fun b hb => hfr b (by simp at hb ⊢; try omega)), fun j h1 h2 => x124.2.1 j h1 (by omega), by (try dsimp only); omega⟩ (by (try dsimp only); omega)
      · skip
        refine pe_aload_n d_Q_paintRow_106 rfl ?_
        refine pe_iload_n d_Q_paintRow_107 rfl ?_
        refine pe_iload d_Q_paintRow_108 rfl ?_
        refine pe_aload_n d_Q_paintRow_110 rfl ?_
        refine pe_iload_n d_Q_paintRow_111 rfl ?_
        refine pe_iload d_Q_paintRow_112 rfl ?_
        refine pe_v2p d_Q_paintRow_114 c_Q_46 i_G_clusterAt s_G_clusterAt rfl rfl (y_G_clusterAt_18 hB (by omega) (by omega)) (fun z114 hz114 => ?_)
        have hR114 : pe_R z114 := by rw [hz114]; exact hB _ _
        have ek2 : z114 = σ 19 (r * 24 + k) := by rw [hz114, g19]
        refine pe_aload_n d_Q_paintRow_117 rfl ?_
        refine pe_iload_n d_Q_paintRow_118 rfl ?_
        refine pe_iload d_Q_paintRow_119 rfl ?_
        refine pe_v2p d_Q_paintRow_121 c_Q_60 i_G_lookAt s_G_lookAt rfl rfl (y_G_lookAt_18 hB (by omega) (by omega)) (fun z121 hz121 => ?_)
        have hR121 : pe_R z121 := by rw [hz121]; exact hB _ _
        have ek3 : z121 = σ 20 (r * 24 + k) := by rw [hz121, g20]
        refine pe_v4v d_Q_paintRow_124 c_Q_63 i_Q_sendCluster s_Q_sendCluster rfl rfl (y_Q_sendCluster hB (by omega) (by omega) (by omega) (by omega) (fun j h1 h2 => hz j h1 (by omega)) (by omega) (by omega) (by omega)) (fun σ124 hz124 => ?_)
        obtain ⟨hB, f124, x124⟩ := hz124
        try have u124_0 : σ124 24 1 = τ 24 1 := by first | exact o124 1 (by decide) | exact congrFun (f124 24 (by decide)) 1
        try have u124_1 : σ124 24 2 = τ 24 2 := by first | exact o124 2 (by decide) | exact congrFun (f124 24 (by decide)) 2
        try have u124_2 : σ124 24 3 = τ 24 3 := by first | exact o124 3 (by decide) | exact congrFun (f124 24 (by decide)) 3
        try have u124_3 : σ124 24 4 = τ 24 4 := by first | exact o124 4 (by decide) | exact congrFun (f124 24 (by decide)) 4
        try have u124_4 : σ124 25 2 = τ 25 2 := by first | exact o124 2 (by decide) | exact congrFun (f124 25 (by decide)) 2
        try have u124_5 : σ124 25 3 = τ 25 3 := by first | exact o124 3 (by decide) | exact congrFun (f124 25 (by decide)) 3
        try have u124_6 : σ124 23 2 = τ 23 2 := by first | exact o124 2 (by decide) | exact congrFun (f124 23 (by decide)) 2
        try have u124_7 : σ124 18 2 = τ 18 2 := by first | exact o124 2 (by decide) | exact congrFun (f124 18 (by decide)) 2
        try have u124_8 : σ124 18 3 = τ 18 3 := by first | exact o124 3 (by decide) | exact congrFun (f124 18 (by decide)) 3
        refine pe_iinc d_Q_paintRow_127 rfl ?_
        refine pe_goto (t := 89) d_Q_paintRow_130 ?_
        first | (exfalso; omega) | exact ih (_, _, _) ⟨hB, (fun b hb => (f124 b (by simp at hb ⊢; try omega)).trans (hfr b (by simp at hb ⊢; try omega))), fun j h1 h2 => x124.2.1 j h1 (by omega), by (try dsimp only); omega⟩ (by (try dsimp only); omega)
  refine pe_aload_n d_Q_paintRow_0 rfl ?_
  refine pe_aload_n d_Q_paintRow_1 rfl ?_
  refine pe_iload_n d_Q_paintRow_2 rfl ?_
  refine pe_v2p d_Q_paintRow_3 c_Q_39 i_Q_firstDifference s_Q_firstDifference rfl rfl (y_Q_fd1 hB (by omega) (by omega) (by omega) n0) (fun z3 hz3 => ?_)
  rw [hz3]
  refine pe_istore_n d_Q_paintRow_6 ?_
  refine pe_iload_n d_Q_paintRow_7 rfl ?_
  refine pe_iconst d_Q_paintRow_8 ?_
  refine pe_icmp_ne (t := 13) d_Q_paintRow_9 (by first | exact hB _ _ | exact hB0 _ _ | exact hBt _ _ | exact ⟨by omega, by omega⟩) (by first | exact hB _ _ | exact hB0 _ _ | exact hBt _ _ | exact ⟨by omega, by omega⟩) (fun h9 => ?_) (fun h9 => ?_)
  · skip
    refine pe_aload_n d_Q_paintRow_13 rfl ?_
    refine pe_aload_n d_Q_paintRow_14 rfl ?_
    refine pe_iload_n d_Q_paintRow_15 rfl ?_
    refine pe_v2p d_Q_paintRow_16 c_Q_43 i_Q_lastDifference s_Q_lastDifference rfl rfl (y_Q_ld1 hB (by omega) (by omega) (by omega) n1) (fun z16 hz16 => ?_)
    rw [hz16]
    refine pe_istore d_Q_paintRow_19 ?_
    refine pe_iload_n d_Q_paintRow_21 rfl ?_
    refine pe_if_le (t := 37) d_Q_paintRow_22 (by first | exact hB _ _ | exact hB0 _ _ | exact hBt _ _ | exact ⟨by omega, by omega⟩) (fun h22 => ?_) (fun h22 => ?_)
    · skip
      refine pe_aload_n d_Q_paintRow_37 rfl ?_
      refine pe_iload_n d_Q_paintRow_38 rfl ?_
      refine pe_s2p d_Q_paintRow_39 c_Q_52 z_Q_blankBeginning (y_Q_bb1 hB (by omega) (by omega) s1.2) (fun z39 hz39 => ?_)
      rw [hz39]
      refine pe_istore d_Q_paintRow_42 ?_
      refine pe_iload_n d_Q_paintRow_44 rfl ?_
      refine pe_iload d_Q_paintRow_45 rfl ?_
      refine pe_maxT c_Q_55 d_Q_paintRow_47 (by first | exact hB _ _ | exact hB0 _ _ | exact hBt _ _ | exact ⟨by omega, by omega⟩) (by first | exact hB _ _ | exact hB0 _ _ | exact hBt _ _ | exact ⟨by omega, by omega⟩) (fun z47 hz47 => ?_)
      refine pe_istore d_Q_paintRow_50 ?_
      refine pe_iload d_Q_paintRow_52 rfl ?_
      refine pe_iload d_Q_paintRow_54 rfl ?_
      refine pe_isub d_Q_paintRow_56 ?_
      refine pe_iconst d_Q_paintRow_57 ?_
      refine pe_iadd d_Q_paintRow_58 ?_
      refine pe_iconst d_Q_paintRow_59 ?_
      refine pe_icmp_le (t := 67) d_Q_paintRow_60 (by first | exact hB _ _ | exact hB0 _ _ | exact hBt _ _ | exact ⟨by omega, by omega⟩) (by first | exact hB _ _ | exact hB0 _ _ | exact hBt _ _ | exact ⟨by omega, by omega⟩) (fun h60 => ?_) (fun h60 => ?_)
      · skip
        refine pe_iconst d_Q_paintRow_67 ?_
        refine pe_istore d_Q_paintRow_68 ?_
        refine pe_iload d_Q_paintRow_70 rfl ?_
        refine pe_if_eq (t := 82) d_Q_paintRow_72 (by first | exact hB _ _ | exact hB0 _ _ | exact hBt _ _ | exact ⟨by omega, by omega⟩) (fun h72 => ?_) (fun h72 => ?_)
        · skip
          refine pe_iload d_Q_paintRow_82 rfl ?_
          refine pe_istore d_Q_paintRow_84 ?_
          refine pe_iload_n d_Q_paintRow_86 rfl ?_
          refine pe_istore d_Q_paintRow_87 ?_
          exact J89 (_, _, _) ⟨hB, (fun b hb => rfl), fun j h1 h2 => by (try dsimp only); rw [(hb j h1 h2).1]; decide, by (try dsimp only); omega⟩
        · skip
          exfalso; omega
      · skip
        exfalso; omega
    · skip
      exfalso; omega
  · skip
    exfalso; omega
