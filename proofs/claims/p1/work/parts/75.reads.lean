/-! p1: the other answers on fresh objects -/
theorem y_P_text {σ : pe_H} {k : Int} (hB : pe_B σ) (hl : σ 3 1 = 0) (hk : pe_R k) : pe_M m_P_text [pe_r 0, pe_i k] σ (pe_qp σ (fun z => z = -1)) := by
  refine pe_in0 (lv := [some (pe_r 0), some (pe_i k)]) ?_
  have hB0 := hB
  refine pe_aload_n d_P_text_0 rfl ?_
  refine pe_getr f_P_30 d_P_text_1 rfl rfl ?_
  refine pe_getr f_P_60 d_P_text_4 rfl rfl ?_
  refine pe_iload_n d_P_text_7 rfl ?_
  refine pe_v1p d_P_text_8 c_P_124 i_T_codeAt s_T_codeAt rfl rfl (t_T_codeAt hB (by first | exact hB _ _ | exact hB0 _ _ | exact hBt _ _ | exact ⟨by omega, by omega⟩) (by omega)) (fun z8 hz8 => ?_)
  rw [if_neg (by omega)] at hz8
  refine pe_ri d_P_text_11 ?_
  exact ⟨rfl, hz8⟩
theorem y_P_state {σ : pe_H} {k : Int} (hB : pe_B σ) (hF : σ 2 7 = 0 ∧ σ 2 8 = -1 ∧ σ 2 5 = 0 ∧ σ 5 6 = 0 ∧ σ 2 9 = -1 ∧ σ 17 2 = 0 ∧ σ 1 0 = 0 ∧ σ 2 10 = 0) (hk : pe_R k) : pe_M m_P_state [pe_r 0, pe_i k] σ (pe_qp σ (fun z => z = if 0 ≤ k ∧ k ≤ 7 then 0 else -1)) := by
  refine pe_in0 (lv := [some (pe_r 0), some (pe_i k)]) ?_
  have hB0 := hB
  refine pe_iload_n d_P_state_0 rfl ?_
  refine pe_tsw [(0, 48), (1, 56), (2, 66), (3, 74), (4, 85), (5, 95), (6, 103), (7, 111)] (dt := 127) d_P_state_1 (by first | exact hB _ _ | exact hB0 _ _ | exact hBt _ _ | exact ⟨by omega, by omega⟩) ?_
  refine ⟨fun h1 => ?_, fun h1_0 => ?_⟩
  · show pe_G _ _ _ _ _ _
    refine pe_aload_n d_P_state_48 rfl ?_
    refine pe_getr f_P_30 d_P_state_49 rfl rfl ?_
    refine pe_geti f_P_127 d_P_state_52 rfl rfl 7 rfl ?_
    refine pe_ri d_P_state_55 ?_
    refine ⟨rfl, ?_⟩
    try dsimp only
    split <;> omega
  refine ⟨fun h1 => ?_, fun h1_1 => ?_⟩
  · show pe_G _ _ _ _ _ _
    refine pe_aload_n d_P_state_56 rfl ?_
    refine pe_getr f_P_30 d_P_state_57 rfl rfl ?_
    refine pe_geti f_P_130 d_P_state_60 rfl rfl 8 rfl ?_
    refine pe_iconst d_P_state_63 ?_
    refine pe_iadd d_P_state_64 ?_
    refine pe_ri d_P_state_65 ?_
    refine ⟨rfl, ?_⟩
    try dsimp only
    split <;> omega
  refine ⟨fun h1 => ?_, fun h1_2 => ?_⟩
  · show pe_G _ _ _ _ _ _
    refine pe_aload_n d_P_state_66 rfl ?_
    refine pe_getr f_P_30 d_P_state_67 rfl rfl ?_
    refine pe_geti f_P_133 d_P_state_70 rfl rfl 5 rfl ?_
    refine pe_ri d_P_state_73 ?_
    refine ⟨rfl, ?_⟩
    try dsimp only
    split <;> omega
  refine ⟨fun h1 => ?_, fun h1_3 => ?_⟩
  · show pe_G _ _ _ _ _ _
    refine pe_aload_n d_P_state_74 rfl ?_
    refine pe_getr f_P_30 d_P_state_75 rfl rfl ?_
    refine pe_getr f_P_136 d_P_state_78 rfl rfl ?_
    refine pe_geti f_P_140 d_P_state_81 rfl rfl 6 rfl ?_
    refine pe_ri d_P_state_84 ?_
    refine ⟨rfl, ?_⟩
    try dsimp only
    split <;> omega
  refine ⟨fun h1 => ?_, fun h1_4 => ?_⟩
  · show pe_G _ _ _ _ _ _
    refine pe_aload_n d_P_state_85 rfl ?_
    refine pe_getr f_P_30 d_P_state_86 rfl rfl ?_
    refine pe_geti f_P_145 d_P_state_89 rfl rfl 9 rfl ?_
    refine pe_iconst d_P_state_92 ?_
    refine pe_iadd d_P_state_93 ?_
    refine pe_ri d_P_state_94 ?_
    refine ⟨rfl, ?_⟩
    try dsimp only
    split <;> omega
  refine ⟨fun h1 => ?_, fun h1_5 => ?_⟩
  · show pe_G _ _ _ _ _ _
    refine pe_aload_n d_P_state_95 rfl ?_
    refine pe_getr f_P_39 d_P_state_96 rfl rfl ?_
    refine pe_geti f_P_148 d_P_state_99 rfl rfl 2 rfl ?_
    refine pe_ri d_P_state_102 ?_
    refine ⟨rfl, ?_⟩
    try dsimp only
    split <;> omega
  refine ⟨fun h1 => ?_, fun h1_6 => ?_⟩
  · show pe_G _ _ _ _ _ _
    refine pe_aload_n d_P_state_103 rfl ?_
    refine pe_getr f_P_21 d_P_state_104 rfl rfl ?_
    refine pe_geti f_P_151 d_P_state_107 rfl rfl 0 rfl ?_
    refine pe_ri d_P_state_110 ?_
    refine ⟨rfl, ?_⟩
    try dsimp only
    split <;> omega
  refine ⟨fun h1 => ?_, fun h1_7 => ?_⟩
  · show pe_G _ _ _ _ _ _
    refine pe_aload_n d_P_state_111 rfl ?_
    refine pe_getr f_P_30 d_P_state_112 rfl rfl ?_
    refine pe_geti f_P_154 d_P_state_115 rfl rfl 10 rfl ?_
    refine pe_if_eq (t := 125) d_P_state_118 (by first | exact hB _ _ | exact hB0 _ _ | exact hBt _ _ | exact ⟨by omega, by omega⟩) (fun h118 => ?_) (fun h118 => ?_)
    · skip
      refine pe_iconst d_P_state_125 ?_
      refine pe_ri d_P_state_126 ?_
      refine ⟨rfl, ?_⟩
      try dsimp only
      split <;> omega
    · skip
      refine pe_iconst d_P_state_121 ?_
      refine pe_goto (t := 126) d_P_state_122 ?_
      refine pe_ri d_P_state_126 ?_
      refine ⟨rfl, ?_⟩
      try dsimp only
      split <;> omega
  show pe_G _ _ _ _ _ _
  refine pe_iconst d_P_state_127 ?_
  refine pe_ri d_P_state_128 ?_
  refine ⟨rfl, ?_⟩
  try dsimp only
  split <;> omega
theorem y_P_cell {σ : pe_H} {r c : Int} (hB : pe_B σ) (hd : 1 ≤ σ 25 2 ∧ σ 25 2 ≤ 24 ∧ 1 ≤ σ 25 3 ∧ σ 25 3 ≤ 8) (hz : ∀ j, 0 ≤ j → j < 192 → σ 26 j = 32) (hr : pe_R r) (hc : pe_R c) : pe_M m_P_cell [pe_r 0, pe_i r, pe_i c] σ (pe_qp σ (fun z => z = if 0 ≤ r ∧ r < σ 25 3 ∧ 0 ≤ c ∧ c < σ 25 2 then 32 else -1)) := by
  refine pe_in0 (lv := [some (pe_r 0), some (pe_i r), some (pe_i c)]) ?_
  have hB0 := hB
  refine pe_aload_n d_P_cell_0 rfl ?_
  refine pe_getr f_P_46 d_P_cell_1 rfl rfl ?_
  refine pe_getr f_P_90 d_P_cell_4 rfl rfl ?_
  refine pe_getr f_P_157 d_P_cell_7 rfl rfl ?_
  refine pe_iload_n d_P_cell_10 rfl ?_
  refine pe_iload_n d_P_cell_11 rfl ?_
  refine pe_v2p d_P_cell_12 c_P_158 i_G_clusterAt s_G_clusterAt rfl rfl (x_G_clusterAt_25 hB (by omega) (by first | exact hB _ _ | exact hB0 _ _ | exact hBt _ _ | exact ⟨by omega, by omega⟩) (by first | exact hB _ _ | exact hB0 _ _ | exact hBt _ _ | exact ⟨by omega, by omega⟩)) (fun z12 hz12 => ?_)
  refine pe_ri d_P_cell_15 ?_
  refine ⟨rfl, ?_⟩
  rw [hz12]
  split
  · exact hz _ (by omega) (by omega)
  · rfl
theorem y_P_look {σ : pe_H} {r c : Int} (hB : pe_B σ) (hd : 1 ≤ σ 25 2 ∧ σ 25 2 ≤ 24 ∧ 1 ≤ σ 25 3 ∧ σ 25 3 ≤ 8) (hz : ∀ j, 0 ≤ j → j < 192 → σ 27 j = 0) (hr : pe_R r) (hc : pe_R c) : pe_M m_P_look [pe_r 0, pe_i r, pe_i c] σ (pe_qp σ (fun z => z = if 0 ≤ r ∧ r < σ 25 3 ∧ 0 ≤ c ∧ c < σ 25 2 then 0 else -1)) := by
  refine pe_in0 (lv := [some (pe_r 0), some (pe_i r), some (pe_i c)]) ?_
  have hB0 := hB
  refine pe_aload_n d_P_look_0 rfl ?_
  refine pe_getr f_P_46 d_P_look_1 rfl rfl ?_
  refine pe_getr f_P_90 d_P_look_4 rfl rfl ?_
  refine pe_getr f_P_157 d_P_look_7 rfl rfl ?_
  refine pe_iload_n d_P_look_10 rfl ?_
  refine pe_iload_n d_P_look_11 rfl ?_
  refine pe_v2p d_P_look_12 c_P_161 i_G_lookAt s_G_lookAt rfl rfl (x_G_lookAt_25 hB (by omega) (by first | exact hB _ _ | exact hB0 _ _ | exact hBt _ _ | exact ⟨by omega, by omega⟩) (by first | exact hB _ _ | exact hB0 _ _ | exact hBt _ _ | exact ⟨by omega, by omega⟩)) (fun z12 hz12 => ?_)
  refine pe_ri d_P_look_15 ?_
  refine ⟨rfl, ?_⟩
  rw [hz12]
  split
  · exact hz _ (by omega) (by omega)
  · rfl
theorem y_P_terminal {σ : pe_H} {k : Int} (hB : pe_B σ) (hF : σ 24 1 = 0 ∧ σ 24 2 = 0 ∧ σ 24 3 = 0 ∧ σ 24 4 = 0) (hk : pe_R k) : pe_M m_P_terminal [pe_r 0, pe_i k] σ (pe_qp σ (fun z => z = if 0 ≤ k ∧ k ≤ 3 then 0 else -1)) := by
  refine pe_in0 (lv := [some (pe_r 0), some (pe_i k), none]) ?_
  have hB0 := hB
  refine pe_aload_n d_P_terminal_0 rfl ?_
  refine pe_getr f_P_46 d_P_terminal_1 rfl rfl ?_
  refine pe_getr f_P_90 d_P_terminal_4 rfl rfl ?_
  refine pe_astore_n d_P_terminal_7 ?_
  refine pe_iload_n d_P_terminal_8 rfl ?_
  refine pe_tsw [(0, 40), (1, 45), (2, 50), (3, 63)] (dt := 68) d_P_terminal_9 (by first | exact hB _ _ | exact hB0 _ _ | exact hBt _ _ | exact ⟨by omega, by omega⟩) ?_
  refine ⟨fun h9 => ?_, fun h9_0 => ?_⟩
  · show pe_G _ _ _ _ _ _
    refine pe_aload_n d_P_terminal_40 rfl ?_
    refine pe_geti f_P_164 d_P_terminal_41 rfl rfl 1 rfl ?_
    refine pe_ri d_P_terminal_44 ?_
    refine ⟨rfl, ?_⟩
    try dsimp only
    split <;> omega
  refine ⟨fun h9 => ?_, fun h9_1 => ?_⟩
  · show pe_G _ _ _ _ _ _
    refine pe_aload_n d_P_terminal_45 rfl ?_
    refine pe_geti f_P_167 d_P_terminal_46 rfl rfl 2 rfl ?_
    refine pe_ri d_P_terminal_49 ?_
    refine ⟨rfl, ?_⟩
    try dsimp only
    split <;> omega
  refine ⟨fun h9 => ?_, fun h9_2 => ?_⟩
  · show pe_G _ _ _ _ _ _
    refine pe_aload_n d_P_terminal_50 rfl ?_
    refine pe_geti f_P_170 d_P_terminal_51 rfl rfl 3 rfl ?_
    refine pe_if_eq (t := 61) d_P_terminal_54 (by first | exact hB _ _ | exact hB0 _ _ | exact hBt _ _ | exact ⟨by omega, by omega⟩) (fun h54 => ?_) (fun h54 => ?_)
    · skip
      refine pe_iconst d_P_terminal_61 ?_
      refine pe_ri d_P_terminal_62 ?_
      refine ⟨rfl, ?_⟩
      try dsimp only
      split <;> omega
    · skip
      refine pe_iconst d_P_terminal_57 ?_
      refine pe_goto (t := 62) d_P_terminal_58 ?_
      refine pe_ri d_P_terminal_62 ?_
      refine ⟨rfl, ?_⟩
      try dsimp only
      split <;> omega
  refine ⟨fun h9 => ?_, fun h9_3 => ?_⟩
  · show pe_G _ _ _ _ _ _
    refine pe_aload_n d_P_terminal_63 rfl ?_
    refine pe_geti f_P_173 d_P_terminal_64 rfl rfl 4 rfl ?_
    refine pe_ri d_P_terminal_67 ?_
    refine ⟨rfl, ?_⟩
    try dsimp only
    split <;> omega
  show pe_G _ _ _ _ _ _
  refine pe_iconst d_P_terminal_68 ?_
  refine pe_ri d_P_terminal_69 ?_
  refine ⟨rfl, ?_⟩
  try dsimp only
  split <;> omega
theorem y_Q_byteAt {σ : pe_H} {k : Int} (hB : pe_B σ) (hq : σ 23 2 = 0) (hk : pe_R k) : pe_M m_Q_byteAt [pe_r 23, pe_i k] σ (pe_qp σ (fun z => z = -1)) := by
  refine pe_in0 (lv := [some (pe_r 23), some (pe_i k)]) ?_
  have hB0 := hB
  refine pe_iload_n d_Q_byteAt_0 rfl ?_
  refine pe_if_lt (t := 21) d_Q_byteAt_1 (by first | exact hB _ _ | exact hB0 _ _ | exact hBt _ _ | exact ⟨by omega, by omega⟩) (fun h1 => ?_) (fun h1 => ?_)
  · skip
    refine pe_iconst d_Q_byteAt_21 ?_
    refine pe_ri d_Q_byteAt_22 ?_
    exact ⟨rfl, rfl⟩
  · skip
    refine pe_iload_n d_Q_byteAt_4 rfl ?_
    refine pe_aload_n d_Q_byteAt_5 rfl ?_
    refine pe_geti f_Q_24 d_Q_byteAt_6 rfl rfl 2 rfl ?_
    refine pe_icmp_ge (t := 21) d_Q_byteAt_9 (by first | exact hB _ _ | exact hB0 _ _ | exact hBt _ _ | exact ⟨by omega, by omega⟩) (by first | exact hB _ _ | exact hB0 _ _ | exact hBt _ _ | exact ⟨by omega, by omega⟩) (fun h9 => ?_) (fun h9 => ?_)
    · skip
      refine pe_iconst d_Q_byteAt_21 ?_
      refine pe_ri d_Q_byteAt_22 ?_
      exact ⟨rfl, rfl⟩
    · skip
      exfalso; omega
theorem y_P_sent {σ : pe_H} {k : Int} (hB : pe_B σ) (hq : σ 23 2 = 0) (hk : pe_R k) : pe_M m_P_sent [pe_r 0, pe_i k] σ (pe_qp σ (fun z => z = -1)) := by
  refine pe_in0 (lv := [some (pe_r 0), some (pe_i k)]) ?_
  have hB0 := hB
  refine pe_aload_n d_P_sent_0 rfl ?_
  refine pe_getr f_P_46 d_P_sent_1 rfl rfl ?_
  refine pe_iload_n d_P_sent_4 rfl ?_
  refine pe_v1p d_P_sent_5 c_P_176 i_Q_byteAt s_Q_byteAt rfl rfl (y_Q_byteAt hB (by omega) (by first | exact hB _ _ | exact hB0 _ _ | exact hBt _ _ | exact ⟨by omega, by omega⟩)) (fun z5 hz5 => ?_)
  refine pe_ri d_P_sent_8 ?_
  exact ⟨rfl, hz5⟩
theorem y_K_giveUp0 {σ : pe_H} (hB : pe_B σ) (hm : σ 1 0 = 0) : pe_M m_K_giveUp [pe_r 1] σ (pe_qi (fun z σ' => pe_B σ' ∧ (∀ b, b ∉ [1] → σ' b = σ b) ∧ z = -1)) := by
  refine pe_in0 (lv := [some (pe_r 1), none]) ?_
  have hB0 := hB
  refine pe_aload_n d_K_giveUp_0 rfl ?_
  refine pe_geti f_K_11 d_K_giveUp_1 rfl rfl 0 rfl ?_
  refine pe_istore_n d_K_giveUp_4 ?_
  refine pe_aload_n d_K_giveUp_5 rfl ?_
  refine pe_iconst d_K_giveUp_6 ?_
  refine pe_putiT f_K_11 g_1_0 d_K_giveUp_7 rfl rfl 0 rfl hB (by first | exact hB _ _ | exact hB0 _ _ | exact hBt _ _ | exact ⟨by omega, by omega⟩) (fun σ7 hB e7 o7 f7 => ?_)
  refine pe_iload_n d_K_giveUp_10 rfl ?_
  refine pe_iconst d_K_giveUp_11 ?_
  refine pe_icmp_ne (t := 18) d_K_giveUp_12 (by first | exact hB _ _ | exact hB0 _ _ | exact hBt _ _ | exact ⟨by omega, by omega⟩) (by first | exact hB _ _ | exact hB0 _ _ | exact hBt _ _ | exact ⟨by omega, by omega⟩) (fun h12 => ?_) (fun h12 => ?_)
  · skip
    refine pe_iload_n d_K_giveUp_18 rfl ?_
    refine pe_iconst d_K_giveUp_19 ?_
    refine pe_icmp_ne (t := 28) d_K_giveUp_20 (by first | exact hB _ _ | exact hB0 _ _ | exact hBt _ _ | exact ⟨by omega, by omega⟩) (by first | exact hB _ _ | exact hB0 _ _ | exact hBt _ _ | exact ⟨by omega, by omega⟩) (fun h20 => ?_) (fun h20 => ?_)
    · skip
      refine pe_iconst d_K_giveUp_28 ?_
      refine pe_ri d_K_giveUp_29 ?_
      exact ⟨hB, (fun b hb => (f7 b (by simp at hb ⊢; try omega)).trans (rfl)), by omega⟩
    · skip
      exfalso; omega
  · skip
    exfalso; omega
theorem y_E_worksOtherwise0 {σ : pe_H} {k : Int} (hk : k = -1) : pe_M m_E_worksOtherwise [pe_i k] σ (pe_qp σ (fun z => z = 0)) := by
  refine pe_in0 (lv := [some (pe_i k)]) ?_
  refine pe_iload_n d_E_worksOtherwise_0 rfl ?_
  refine pe_tsw [(0, 128), (1, 130), (2, 130), (3, 130), (4, 130), (5, 130), (6, 130), (7, 130), (8, 128), (9, 128), (10, 128), (11, 130), (12, 128), (13, 128), (14, 130), (15, 130), (16, 130), (17, 130), (18, 130), (19, 130), (20, 130), (21, 130), (22, 130), (23, 128), (24, 130), (25, 128), (26, 128), (27, 128)] (dt := 130) d_E_worksOtherwise_1 (by first | exact hB _ _ | exact hB0 _ _ | exact hBt _ _ | exact ⟨by omega, by omega⟩) ?_
  refine ⟨fun h1 => ?_, fun h1_0 => ?_⟩
  · show pe_G _ _ _ _ _ _
    refine pe_iconst d_E_worksOtherwise_128 ?_
    refine pe_rz d_E_worksOtherwise_129 (by first | exact Or.inl rfl | exact Or.inr rfl | omega) ?_
    exact ⟨rfl, by omega⟩
  refine ⟨fun h1 => ?_, fun h1_1 => ?_⟩
  · show pe_G _ _ _ _ _ _
    refine pe_iload_n d_E_worksOtherwise_130 rfl ?_
    refine pe_bipush d_E_worksOtherwise_131 ?_
    refine pe_icmp_lt (t := 140) d_E_worksOtherwise_133 (by first | exact hB _ _ | exact hB0 _ _ | exact hBt _ _ | exact ⟨by omega, by omega⟩) (by first | exact hB _ _ | exact hB0 _ _ | exact hBt _ _ | exact ⟨by omega, by omega⟩) (fun h133 => ?_) (fun h133 => ?_)
    · skip
      refine pe_iconst d_E_worksOtherwise_140 ?_
      refine pe_rz d_E_worksOtherwise_141 (by first | exact Or.inl rfl | exact Or.inr rfl | omega) ?_
      exact ⟨rfl, by omega⟩
    · skip
      refine pe_iconst d_E_worksOtherwise_136 ?_
      refine pe_goto (t := 141) d_E_worksOtherwise_137 ?_
      refine pe_rz d_E_worksOtherwise_141 (by first | exact Or.inl rfl | exact Or.inr rfl | omega) ?_
      exact ⟨rfl, by omega⟩
  refine ⟨fun h1 => ?_, fun h1_2 => ?_⟩
  · show pe_G _ _ _ _ _ _
    refine pe_iload_n d_E_worksOtherwise_130 rfl ?_
    refine pe_bipush d_E_worksOtherwise_131 ?_
    refine pe_icmp_lt (t := 140) d_E_worksOtherwise_133 (by first | exact hB _ _ | exact hB0 _ _ | exact hBt _ _ | exact ⟨by omega, by omega⟩) (by first | exact hB _ _ | exact hB0 _ _ | exact hBt _ _ | exact ⟨by omega, by omega⟩) (fun h133 => ?_) (fun h133 => ?_)
    · skip
      refine pe_iconst d_E_worksOtherwise_140 ?_
      refine pe_rz d_E_worksOtherwise_141 (by first | exact Or.inl rfl | exact Or.inr rfl | omega) ?_
      exact ⟨rfl, by omega⟩
    · skip
      refine pe_iconst d_E_worksOtherwise_136 ?_
      refine pe_goto (t := 141) d_E_worksOtherwise_137 ?_
      refine pe_rz d_E_worksOtherwise_141 (by first | exact Or.inl rfl | exact Or.inr rfl | omega) ?_
      exact ⟨rfl, by omega⟩
  refine ⟨fun h1 => ?_, fun h1_3 => ?_⟩
  · show pe_G _ _ _ _ _ _
    refine pe_iload_n d_E_worksOtherwise_130 rfl ?_
    refine pe_bipush d_E_worksOtherwise_131 ?_
    refine pe_icmp_lt (t := 140) d_E_worksOtherwise_133 (by first | exact hB _ _ | exact hB0 _ _ | exact hBt _ _ | exact ⟨by omega, by omega⟩) (by first | exact hB _ _ | exact hB0 _ _ | exact hBt _ _ | exact ⟨by omega, by omega⟩) (fun h133 => ?_) (fun h133 => ?_)
    · skip
      refine pe_iconst d_E_worksOtherwise_140 ?_
      refine pe_rz d_E_worksOtherwise_141 (by first | exact Or.inl rfl | exact Or.inr rfl | omega) ?_
      exact ⟨rfl, by omega⟩
    · skip
      refine pe_iconst d_E_worksOtherwise_136 ?_
      refine pe_goto (t := 141) d_E_worksOtherwise_137 ?_
      refine pe_rz d_E_worksOtherwise_141 (by first | exact Or.inl rfl | exact Or.inr rfl | omega) ?_
      exact ⟨rfl, by omega⟩
  refine ⟨fun h1 => ?_, fun h1_4 => ?_⟩
  · show pe_G _ _ _ _ _ _
    refine pe_iload_n d_E_worksOtherwise_130 rfl ?_
    refine pe_bipush d_E_worksOtherwise_131 ?_
    refine pe_icmp_lt (t := 140) d_E_worksOtherwise_133 (by first | exact hB _ _ | exact hB0 _ _ | exact hBt _ _ | exact ⟨by omega, by omega⟩) (by first | exact hB _ _ | exact hB0 _ _ | exact hBt _ _ | exact ⟨by omega, by omega⟩) (fun h133 => ?_) (fun h133 => ?_)
    · skip
      refine pe_iconst d_E_worksOtherwise_140 ?_
      refine pe_rz d_E_worksOtherwise_141 (by first | exact Or.inl rfl | exact Or.inr rfl | omega) ?_
      exact ⟨rfl, by omega⟩
    · skip
      refine pe_iconst d_E_worksOtherwise_136 ?_
      refine pe_goto (t := 141) d_E_worksOtherwise_137 ?_
      refine pe_rz d_E_worksOtherwise_141 (by first | exact Or.inl rfl | exact Or.inr rfl | omega) ?_
      exact ⟨rfl, by omega⟩
  refine ⟨fun h1 => ?_, fun h1_5 => ?_⟩
  · show pe_G _ _ _ _ _ _
    refine pe_iload_n d_E_worksOtherwise_130 rfl ?_
    refine pe_bipush d_E_worksOtherwise_131 ?_
    refine pe_icmp_lt (t := 140) d_E_worksOtherwise_133 (by first | exact hB _ _ | exact hB0 _ _ | exact hBt _ _ | exact ⟨by omega, by omega⟩) (by first | exact hB _ _ | exact hB0 _ _ | exact hBt _ _ | exact ⟨by omega, by omega⟩) (fun h133 => ?_) (fun h133 => ?_)
    · skip
      refine pe_iconst d_E_worksOtherwise_140 ?_
      refine pe_rz d_E_worksOtherwise_141 (by first | exact Or.inl rfl | exact Or.inr rfl | omega) ?_
      exact ⟨rfl, by omega⟩
    · skip
      refine pe_iconst d_E_worksOtherwise_136 ?_
      refine pe_goto (t := 141) d_E_worksOtherwise_137 ?_
      refine pe_rz d_E_worksOtherwise_141 (by first | exact Or.inl rfl | exact Or.inr rfl | omega) ?_
      exact ⟨rfl, by omega⟩
  refine ⟨fun h1 => ?_, fun h1_6 => ?_⟩
  · show pe_G _ _ _ _ _ _
    refine pe_iload_n d_E_worksOtherwise_130 rfl ?_
    refine pe_bipush d_E_worksOtherwise_131 ?_
    refine pe_icmp_lt (t := 140) d_E_worksOtherwise_133 (by first | exact hB _ _ | exact hB0 _ _ | exact hBt _ _ | exact ⟨by omega, by omega⟩) (by first | exact hB _ _ | exact hB0 _ _ | exact hBt _ _ | exact ⟨by omega, by omega⟩) (fun h133 => ?_) (fun h133 => ?_)
    · skip
      refine pe_iconst d_E_worksOtherwise_140 ?_
      refine pe_rz d_E_worksOtherwise_141 (by first | exact Or.inl rfl | exact Or.inr rfl | omega) ?_
      exact ⟨rfl, by omega⟩
    · skip
      refine pe_iconst d_E_worksOtherwise_136 ?_
      refine pe_goto (t := 141) d_E_worksOtherwise_137 ?_
      refine pe_rz d_E_worksOtherwise_141 (by first | exact Or.inl rfl | exact Or.inr rfl | omega) ?_
      exact ⟨rfl, by omega⟩
  refine ⟨fun h1 => ?_, fun h1_7 => ?_⟩
  · show pe_G _ _ _ _ _ _
    refine pe_iload_n d_E_worksOtherwise_130 rfl ?_
    refine pe_bipush d_E_worksOtherwise_131 ?_
    refine pe_icmp_lt (t := 140) d_E_worksOtherwise_133 (by first | exact hB _ _ | exact hB0 _ _ | exact hBt _ _ | exact ⟨by omega, by omega⟩) (by first | exact hB _ _ | exact hB0 _ _ | exact hBt _ _ | exact ⟨by omega, by omega⟩) (fun h133 => ?_) (fun h133 => ?_)
    · skip
      refine pe_iconst d_E_worksOtherwise_140 ?_
      refine pe_rz d_E_worksOtherwise_141 (by first | exact Or.inl rfl | exact Or.inr rfl | omega) ?_
      exact ⟨rfl, by omega⟩
    · skip
      refine pe_iconst d_E_worksOtherwise_136 ?_
      refine pe_goto (t := 141) d_E_worksOtherwise_137 ?_
      refine pe_rz d_E_worksOtherwise_141 (by first | exact Or.inl rfl | exact Or.inr rfl | omega) ?_
      exact ⟨rfl, by omega⟩
  refine ⟨fun h1 => ?_, fun h1_8 => ?_⟩
  · show pe_G _ _ _ _ _ _
    refine pe_iconst d_E_worksOtherwise_128 ?_
    refine pe_rz d_E_worksOtherwise_129 (by first | exact Or.inl rfl | exact Or.inr rfl | omega) ?_
    exact ⟨rfl, by omega⟩
  refine ⟨fun h1 => ?_, fun h1_9 => ?_⟩
  · show pe_G _ _ _ _ _ _
    refine pe_iconst d_E_worksOtherwise_128 ?_
    refine pe_rz d_E_worksOtherwise_129 (by first | exact Or.inl rfl | exact Or.inr rfl | omega) ?_
    exact ⟨rfl, by omega⟩
  refine ⟨fun h1 => ?_, fun h1_10 => ?_⟩
  · show pe_G _ _ _ _ _ _
    refine pe_iconst d_E_worksOtherwise_128 ?_
    refine pe_rz d_E_worksOtherwise_129 (by first | exact Or.inl rfl | exact Or.inr rfl | omega) ?_
    exact ⟨rfl, by omega⟩
  refine ⟨fun h1 => ?_, fun h1_11 => ?_⟩
  · show pe_G _ _ _ _ _ _
    refine pe_iload_n d_E_worksOtherwise_130 rfl ?_
    refine pe_bipush d_E_worksOtherwise_131 ?_
    refine pe_icmp_lt (t := 140) d_E_worksOtherwise_133 (by first | exact hB _ _ | exact hB0 _ _ | exact hBt _ _ | exact ⟨by omega, by omega⟩) (by first | exact hB _ _ | exact hB0 _ _ | exact hBt _ _ | exact ⟨by omega, by omega⟩) (fun h133 => ?_) (fun h133 => ?_)
    · skip
      refine pe_iconst d_E_worksOtherwise_140 ?_
      refine pe_rz d_E_worksOtherwise_141 (by first | exact Or.inl rfl | exact Or.inr rfl | omega) ?_
      exact ⟨rfl, by omega⟩
    · skip
      refine pe_iconst d_E_worksOtherwise_136 ?_
      refine pe_goto (t := 141) d_E_worksOtherwise_137 ?_
      refine pe_rz d_E_worksOtherwise_141 (by first | exact Or.inl rfl | exact Or.inr rfl | omega) ?_
      exact ⟨rfl, by omega⟩
  refine ⟨fun h1 => ?_, fun h1_12 => ?_⟩
  · show pe_G _ _ _ _ _ _
    refine pe_iconst d_E_worksOtherwise_128 ?_
    refine pe_rz d_E_worksOtherwise_129 (by first | exact Or.inl rfl | exact Or.inr rfl | omega) ?_
    exact ⟨rfl, by omega⟩
  refine ⟨fun h1 => ?_, fun h1_13 => ?_⟩
  · show pe_G _ _ _ _ _ _
    refine pe_iconst d_E_worksOtherwise_128 ?_
    refine pe_rz d_E_worksOtherwise_129 (by first | exact Or.inl rfl | exact Or.inr rfl | omega) ?_
    exact ⟨rfl, by omega⟩
  refine ⟨fun h1 => ?_, fun h1_14 => ?_⟩
  · show pe_G _ _ _ _ _ _
    refine pe_iload_n d_E_worksOtherwise_130 rfl ?_
    refine pe_bipush d_E_worksOtherwise_131 ?_
    refine pe_icmp_lt (t := 140) d_E_worksOtherwise_133 (by first | exact hB _ _ | exact hB0 _ _ | exact hBt _ _ | exact ⟨by omega, by omega⟩) (by first | exact hB _ _ | exact hB0 _ _ | exact hBt _ _ | exact ⟨by omega, by omega⟩) (fun h133 => ?_) (fun h133 => ?_)
    · skip
      refine pe_iconst d_E_worksOtherwise_140 ?_
      refine pe_rz d_E_worksOtherwise_141 (by first | exact Or.inl rfl | exact Or.inr rfl | omega) ?_
      exact ⟨rfl, by omega⟩
    · skip
      refine pe_iconst d_E_worksOtherwise_136 ?_
      refine pe_goto (t := 141) d_E_worksOtherwise_137 ?_
      refine pe_rz d_E_worksOtherwise_141 (by first | exact Or.inl rfl | exact Or.inr rfl | omega) ?_
      exact ⟨rfl, by omega⟩
  refine ⟨fun h1 => ?_, fun h1_15 => ?_⟩
  · show pe_G _ _ _ _ _ _
    refine pe_iload_n d_E_worksOtherwise_130 rfl ?_
    refine pe_bipush d_E_worksOtherwise_131 ?_
    refine pe_icmp_lt (t := 140) d_E_worksOtherwise_133 (by first | exact hB _ _ | exact hB0 _ _ | exact hBt _ _ | exact ⟨by omega, by omega⟩) (by first | exact hB _ _ | exact hB0 _ _ | exact hBt _ _ | exact ⟨by omega, by omega⟩) (fun h133 => ?_) (fun h133 => ?_)
    · skip
      refine pe_iconst d_E_worksOtherwise_140 ?_
      refine pe_rz d_E_worksOtherwise_141 (by first | exact Or.inl rfl | exact Or.inr rfl | omega) ?_
      exact ⟨rfl, by omega⟩
    · skip
      refine pe_iconst d_E_worksOtherwise_136 ?_
      refine pe_goto (t := 141) d_E_worksOtherwise_137 ?_
      refine pe_rz d_E_worksOtherwise_141 (by first | exact Or.inl rfl | exact Or.inr rfl | omega) ?_
      exact ⟨rfl, by omega⟩
  refine ⟨fun h1 => ?_, fun h1_16 => ?_⟩
  · show pe_G _ _ _ _ _ _
    refine pe_iload_n d_E_worksOtherwise_130 rfl ?_
    refine pe_bipush d_E_worksOtherwise_131 ?_
    refine pe_icmp_lt (t := 140) d_E_worksOtherwise_133 (by first | exact hB _ _ | exact hB0 _ _ | exact hBt _ _ | exact ⟨by omega, by omega⟩) (by first | exact hB _ _ | exact hB0 _ _ | exact hBt _ _ | exact ⟨by omega, by omega⟩) (fun h133 => ?_) (fun h133 => ?_)
    · skip
      refine pe_iconst d_E_worksOtherwise_140 ?_
      refine pe_rz d_E_worksOtherwise_141 (by first | exact Or.inl rfl | exact Or.inr rfl | omega) ?_
      exact ⟨rfl, by omega⟩
    · skip
      refine pe_iconst d_E_worksOtherwise_136 ?_
      refine pe_goto (t := 141) d_E_worksOtherwise_137 ?_
      refine pe_rz d_E_worksOtherwise_141 (by first | exact Or.inl rfl | exact Or.inr rfl | omega) ?_
      exact ⟨rfl, by omega⟩
  refine ⟨fun h1 => ?_, fun h1_17 => ?_⟩
  · show pe_G _ _ _ _ _ _
    refine pe_iload_n d_E_worksOtherwise_130 rfl ?_
    refine pe_bipush d_E_worksOtherwise_131 ?_
    refine pe_icmp_lt (t := 140) d_E_worksOtherwise_133 (by first | exact hB _ _ | exact hB0 _ _ | exact hBt _ _ | exact ⟨by omega, by omega⟩) (by first | exact hB _ _ | exact hB0 _ _ | exact hBt _ _ | exact ⟨by omega, by omega⟩) (fun h133 => ?_) (fun h133 => ?_)
    · skip
      refine pe_iconst d_E_worksOtherwise_140 ?_
      refine pe_rz d_E_worksOtherwise_141 (by first | exact Or.inl rfl | exact Or.inr rfl | omega) ?_
      exact ⟨rfl, by omega⟩
    · skip
      refine pe_iconst d_E_worksOtherwise_136 ?_
      refine pe_goto (t := 141) d_E_worksOtherwise_137 ?_
      refine pe_rz d_E_worksOtherwise_141 (by first | exact Or.inl rfl | exact Or.inr rfl | omega) ?_
      exact ⟨rfl, by omega⟩
  refine ⟨fun h1 => ?_, fun h1_18 => ?_⟩
  · show pe_G _ _ _ _ _ _
    refine pe_iload_n d_E_worksOtherwise_130 rfl ?_
    refine pe_bipush d_E_worksOtherwise_131 ?_
    refine pe_icmp_lt (t := 140) d_E_worksOtherwise_133 (by first | exact hB _ _ | exact hB0 _ _ | exact hBt _ _ | exact ⟨by omega, by omega⟩) (by first | exact hB _ _ | exact hB0 _ _ | exact hBt _ _ | exact ⟨by omega, by omega⟩) (fun h133 => ?_) (fun h133 => ?_)
    · skip
      refine pe_iconst d_E_worksOtherwise_140 ?_
      refine pe_rz d_E_worksOtherwise_141 (by first | exact Or.inl rfl | exact Or.inr rfl | omega) ?_
      exact ⟨rfl, by omega⟩
    · skip
      refine pe_iconst d_E_worksOtherwise_136 ?_
      refine pe_goto (t := 141) d_E_worksOtherwise_137 ?_
      refine pe_rz d_E_worksOtherwise_141 (by first | exact Or.inl rfl | exact Or.inr rfl | omega) ?_
      exact ⟨rfl, by omega⟩
  refine ⟨fun h1 => ?_, fun h1_19 => ?_⟩
  · show pe_G _ _ _ _ _ _
    refine pe_iload_n d_E_worksOtherwise_130 rfl ?_
    refine pe_bipush d_E_worksOtherwise_131 ?_
    refine pe_icmp_lt (t := 140) d_E_worksOtherwise_133 (by first | exact hB _ _ | exact hB0 _ _ | exact hBt _ _ | exact ⟨by omega, by omega⟩) (by first | exact hB _ _ | exact hB0 _ _ | exact hBt _ _ | exact ⟨by omega, by omega⟩) (fun h133 => ?_) (fun h133 => ?_)
    · skip
      refine pe_iconst d_E_worksOtherwise_140 ?_
      refine pe_rz d_E_worksOtherwise_141 (by first | exact Or.inl rfl | exact Or.inr rfl | omega) ?_
      exact ⟨rfl, by omega⟩
    · skip
      refine pe_iconst d_E_worksOtherwise_136 ?_
      refine pe_goto (t := 141) d_E_worksOtherwise_137 ?_
      refine pe_rz d_E_worksOtherwise_141 (by first | exact Or.inl rfl | exact Or.inr rfl | omega) ?_
      exact ⟨rfl, by omega⟩
  refine ⟨fun h1 => ?_, fun h1_20 => ?_⟩
  · show pe_G _ _ _ _ _ _
    refine pe_iload_n d_E_worksOtherwise_130 rfl ?_
    refine pe_bipush d_E_worksOtherwise_131 ?_
    refine pe_icmp_lt (t := 140) d_E_worksOtherwise_133 (by first | exact hB _ _ | exact hB0 _ _ | exact hBt _ _ | exact ⟨by omega, by omega⟩) (by first | exact hB _ _ | exact hB0 _ _ | exact hBt _ _ | exact ⟨by omega, by omega⟩) (fun h133 => ?_) (fun h133 => ?_)
    · skip
      refine pe_iconst d_E_worksOtherwise_140 ?_
      refine pe_rz d_E_worksOtherwise_141 (by first | exact Or.inl rfl | exact Or.inr rfl | omega) ?_
      exact ⟨rfl, by omega⟩
    · skip
      refine pe_iconst d_E_worksOtherwise_136 ?_
      refine pe_goto (t := 141) d_E_worksOtherwise_137 ?_
      refine pe_rz d_E_worksOtherwise_141 (by first | exact Or.inl rfl | exact Or.inr rfl | omega) ?_
      exact ⟨rfl, by omega⟩
  refine ⟨fun h1 => ?_, fun h1_21 => ?_⟩
  · show pe_G _ _ _ _ _ _
    refine pe_iload_n d_E_worksOtherwise_130 rfl ?_
    refine pe_bipush d_E_worksOtherwise_131 ?_
    refine pe_icmp_lt (t := 140) d_E_worksOtherwise_133 (by first | exact hB _ _ | exact hB0 _ _ | exact hBt _ _ | exact ⟨by omega, by omega⟩) (by first | exact hB _ _ | exact hB0 _ _ | exact hBt _ _ | exact ⟨by omega, by omega⟩) (fun h133 => ?_) (fun h133 => ?_)
    · skip
      refine pe_iconst d_E_worksOtherwise_140 ?_
      refine pe_rz d_E_worksOtherwise_141 (by first | exact Or.inl rfl | exact Or.inr rfl | omega) ?_
      exact ⟨rfl, by omega⟩
    · skip
      refine pe_iconst d_E_worksOtherwise_136 ?_
      refine pe_goto (t := 141) d_E_worksOtherwise_137 ?_
      refine pe_rz d_E_worksOtherwise_141 (by first | exact Or.inl rfl | exact Or.inr rfl | omega) ?_
      exact ⟨rfl, by omega⟩
  refine ⟨fun h1 => ?_, fun h1_22 => ?_⟩
  · show pe_G _ _ _ _ _ _
    refine pe_iload_n d_E_worksOtherwise_130 rfl ?_
    refine pe_bipush d_E_worksOtherwise_131 ?_
    refine pe_icmp_lt (t := 140) d_E_worksOtherwise_133 (by first | exact hB _ _ | exact hB0 _ _ | exact hBt _ _ | exact ⟨by omega, by omega⟩) (by first | exact hB _ _ | exact hB0 _ _ | exact hBt _ _ | exact ⟨by omega, by omega⟩) (fun h133 => ?_) (fun h133 => ?_)
    · skip
      refine pe_iconst d_E_worksOtherwise_140 ?_
      refine pe_rz d_E_worksOtherwise_141 (by first | exact Or.inl rfl | exact Or.inr rfl | omega) ?_
      exact ⟨rfl, by omega⟩
    · skip
      refine pe_iconst d_E_worksOtherwise_136 ?_
      refine pe_goto (t := 141) d_E_worksOtherwise_137 ?_
      refine pe_rz d_E_worksOtherwise_141 (by first | exact Or.inl rfl | exact Or.inr rfl | omega) ?_
      exact ⟨rfl, by omega⟩
  refine ⟨fun h1 => ?_, fun h1_23 => ?_⟩
  · show pe_G _ _ _ _ _ _
    refine pe_iconst d_E_worksOtherwise_128 ?_
    refine pe_rz d_E_worksOtherwise_129 (by first | exact Or.inl rfl | exact Or.inr rfl | omega) ?_
    exact ⟨rfl, by omega⟩
  refine ⟨fun h1 => ?_, fun h1_24 => ?_⟩
  · show pe_G _ _ _ _ _ _
    refine pe_iload_n d_E_worksOtherwise_130 rfl ?_
    refine pe_bipush d_E_worksOtherwise_131 ?_
    refine pe_icmp_lt (t := 140) d_E_worksOtherwise_133 (by first | exact hB _ _ | exact hB0 _ _ | exact hBt _ _ | exact ⟨by omega, by omega⟩) (by first | exact hB _ _ | exact hB0 _ _ | exact hBt _ _ | exact ⟨by omega, by omega⟩) (fun h133 => ?_) (fun h133 => ?_)
    · skip
      refine pe_iconst d_E_worksOtherwise_140 ?_
      refine pe_rz d_E_worksOtherwise_141 (by first | exact Or.inl rfl | exact Or.inr rfl | omega) ?_
      exact ⟨rfl, by omega⟩
    · skip
      refine pe_iconst d_E_worksOtherwise_136 ?_
      refine pe_goto (t := 141) d_E_worksOtherwise_137 ?_
      refine pe_rz d_E_worksOtherwise_141 (by first | exact Or.inl rfl | exact Or.inr rfl | omega) ?_
      exact ⟨rfl, by omega⟩
  refine ⟨fun h1 => ?_, fun h1_25 => ?_⟩
  · show pe_G _ _ _ _ _ _
    refine pe_iconst d_E_worksOtherwise_128 ?_
    refine pe_rz d_E_worksOtherwise_129 (by first | exact Or.inl rfl | exact Or.inr rfl | omega) ?_
    exact ⟨rfl, by omega⟩
  refine ⟨fun h1 => ?_, fun h1_26 => ?_⟩
  · show pe_G _ _ _ _ _ _
    refine pe_iconst d_E_worksOtherwise_128 ?_
    refine pe_rz d_E_worksOtherwise_129 (by first | exact Or.inl rfl | exact Or.inr rfl | omega) ?_
    exact ⟨rfl, by omega⟩
  refine ⟨fun h1 => ?_, fun h1_27 => ?_⟩
  · show pe_G _ _ _ _ _ _
    refine pe_iconst d_E_worksOtherwise_128 ?_
    refine pe_rz d_E_worksOtherwise_129 (by first | exact Or.inl rfl | exact Or.inr rfl | omega) ?_
    exact ⟨rfl, by omega⟩
  show pe_G _ _ _ _ _ _
  refine pe_iload_n d_E_worksOtherwise_130 rfl ?_
  refine pe_bipush d_E_worksOtherwise_131 ?_
  refine pe_icmp_lt (t := 140) d_E_worksOtherwise_133 (by first | exact hB _ _ | exact hB0 _ _ | exact hBt _ _ | exact ⟨by omega, by omega⟩) (by first | exact hB _ _ | exact hB0 _ _ | exact hBt _ _ | exact ⟨by omega, by omega⟩) (fun h133 => ?_) (fun h133 => ?_)
  · skip
    refine pe_iconst d_E_worksOtherwise_140 ?_
    refine pe_rz d_E_worksOtherwise_141 (by first | exact Or.inl rfl | exact Or.inr rfl | omega) ?_
    exact ⟨rfl, by omega⟩
  · skip
    refine pe_iconst d_E_worksOtherwise_136 ?_
    refine pe_goto (t := 141) d_E_worksOtherwise_137 ?_
    refine pe_rz d_E_worksOtherwise_141 (by first | exact Or.inl rfl | exact Or.inr rfl | omega) ?_
    exact ⟨rfl, by omega⟩
theorem y_E_press0 {σ : pe_H} {k : Int} (hB : pe_B σ) (hk : k = -1) (hp : σ 2 10 = 0) : pe_M m_E_press [pe_r 2, pe_i k] σ (pe_qv (fun σ' => σ' = σ)) := by
  refine pe_in0 (lv := [some (pe_r 2), some (pe_i k)]) ?_
  have hB0 := hB
  refine pe_iload_n d_E_press_0 rfl ?_
  refine pe_ldc q_E_53 d_E_press_1 (z := 65536) rfl ?_
  refine pe_icmp_eq (t := 12) d_E_press_3 (by first | exact hB _ _ | exact hB0 _ _ | exact hBt _ _ | exact ⟨by omega, by omega⟩) (by first | exact hB _ _ | exact hB0 _ _ | exact hBt _ _ | exact ⟨by omega, by omega⟩) (fun h3 => ?_) (fun h3 => ?_)
  · skip
    exfalso; omega
  · skip
    refine pe_iload_n d_E_press_6 rfl ?_
    refine pe_ldc q_E_54 d_E_press_7 (z := 65537) rfl ?_
    refine pe_icmp_ne (t := 35) d_E_press_9 (by first | exact hB _ _ | exact hB0 _ _ | exact hBt _ _ | exact ⟨by omega, by omega⟩) (by first | exact hB _ _ | exact hB0 _ _ | exact hBt _ _ | exact ⟨by omega, by omega⟩) (fun h9 => ?_) (fun h9 => ?_)
    · skip
      refine pe_aload_n d_E_press_35 rfl ?_
      refine pe_geti f_E_55 d_E_press_36 rfl rfl 10 rfl ?_
      refine pe_if_eq (t := 52) d_E_press_39 (by first | exact hB _ _ | exact hB0 _ _ | exact hBt _ _ | exact ⟨by omega, by omega⟩) (fun h39 => ?_) (fun h39 => ?_)
      · skip
        refine pe_iload_n d_E_press_52 rfl ?_
        refine pe_s1p d_E_press_53 c_E_66 z_E_worksOtherwise (y_E_worksOtherwise0 (by omega)) (fun z53 hz53 => ?_)
        refine pe_if_ne (t := 60) d_E_press_56 (by first | exact hB _ _ | exact hB0 _ _ | exact hBt _ _ | exact ⟨by omega, by omega⟩) (fun h56 => ?_) (fun h56 => ?_)
        · skip
          exfalso; omega
        · skip
          refine pe_rv d_E_press_59 ?_
          rfl
      · skip
        exfalso; omega
    · skip
      exfalso; omega
theorem y_P_tick {σ : pe_H} (hB : pe_B σ) (hF : σ 3 1 = 0 ∧ σ 1 0 = 0 ∧ σ 2 10 = 0) : pe_M m_P_tick [pe_r 0] σ (pe_qi (fun z σ' => pe_B σ' ∧ (∀ b, b ∉ [1] → σ' b = σ b) ∧ z = 0)) := by
  refine pe_in0 (lv := [some (pe_r 0)]) ?_
  have hB0 := hB
  refine pe_aload_n d_P_tick_0 rfl ?_
  refine pe_getr f_P_30 d_P_tick_1 rfl rfl ?_
  refine pe_aload_n d_P_tick_4 rfl ?_
  refine pe_getr f_P_21 d_P_tick_5 rfl rfl ?_
  refine pe_v0i d_P_tick_8 c_P_70 i_K_giveUp s_K_giveUp rfl rfl (y_K_giveUp0 hB (by omega)) (fun z8 σ8 hz8 => ?_)
  obtain ⟨hB, f8, x8⟩ := hz8
  try have u8_0 : σ8 3 1 = σ 3 1 := by first | exact o8 1 (by decide) | exact congrFun (f8 3 (by decide)) 1
  try have u8_1 : σ8 1 0 = σ 1 0 := by first | exact o8 0 (by decide) | exact congrFun (f8 1 (by decide)) 0
  try have u8_2 : σ8 2 10 = σ 2 10 := by first | exact o8 10 (by decide) | exact congrFun (f8 2 (by decide)) 10
  skip
  refine pe_v1v d_P_tick_11 c_P_54 i_E_press s_E_press rfl rfl (y_E_press0 hB (by omega) (by omega)) (fun σ11 hz11 => ?_)
  rw [hz11]
  refine pe_aload_n d_P_tick_14 rfl ?_
  refine pe_getr f_P_30 d_P_tick_15 rfl rfl ?_
  refine pe_getr f_P_60 d_P_tick_18 rfl rfl ?_
  refine pe_geti f_P_64 d_P_tick_21 rfl rfl 1 rfl ?_
  refine pe_ri d_P_tick_24 ?_
  exact ⟨hB, (fun b hb => (f8 b (by simp at hb ⊢; try omega)).trans (rfl)), by omega⟩
theorem y_M_text {σ : pe_H} {k : Int} (hB : pe_B σ) (hl : σ 29 1 = 0) (hk : pe_R k) : pe_M m_M_text [pe_r 29, pe_i k] σ (pe_qp σ (fun z => z = -1)) := by
  refine pe_in0 (lv := [some (pe_r 29), some (pe_i k)]) ?_
  have hB0 := hB
  refine pe_iload_n d_M_text_0 rfl ?_
  refine pe_if_lt (t := 12) d_M_text_1 (by first | exact hB _ _ | exact hB0 _ _ | exact hBt _ _ | exact ⟨by omega, by omega⟩) (fun h1 => ?_) (fun h1 => ?_)
  · skip
    refine pe_iconst d_M_text_12 ?_
    refine pe_goto (t := 22) d_M_text_13 ?_
    refine pe_ri d_M_text_22 ?_
    exact ⟨rfl, rfl⟩
  · skip
    refine pe_iload_n d_M_text_4 rfl ?_
    refine pe_aload_n d_M_text_5 rfl ?_
    refine pe_geti f_M_87 d_M_text_6 rfl rfl 1 rfl ?_
    refine pe_icmp_lt (t := 16) d_M_text_9 (by first | exact hB _ _ | exact hB0 _ _ | exact hBt _ _ | exact ⟨by omega, by omega⟩) (by first | exact hB _ _ | exact hB0 _ _ | exact hBt _ _ | exact ⟨by omega, by omega⟩) (fun h9 => ?_) (fun h9 => ?_)
    · skip
      exfalso; omega
    · skip
      refine pe_iconst d_M_text_12 ?_
      refine pe_goto (t := 22) d_M_text_13 ?_
      refine pe_ri d_M_text_22 ?_
      exact ⟨rfl, rfl⟩
theorem y_M_state {σ : pe_H} {k : Int} (hB : pe_B σ) (hF : σ 29 2 = 0 ∧ σ 29 3 = -1 ∧ σ 29 5 = 0 ∧ σ 29 7 = 0 ∧ σ 29 6 = -1 ∧ σ 29 27 = 0 ∧ σ 29 13 = 0 ∧ σ 29 15 = 0 ∧ σ 29 19 = 0) (hk : pe_R k) : pe_M m_M_state [pe_r 29, pe_i k] σ (pe_qp σ (fun z => z = if 0 ≤ k ∧ k ≤ 7 then 0 else -1)) := by
  refine pe_in0 (lv := [some (pe_r 29), some (pe_i k)]) ?_
  have hB0 := hB
  refine pe_iload_n d_M_state_0 rfl ?_
  refine pe_tsw [(0, 48), (1, 53), (2, 60), (3, 65), (4, 70), (5, 77), (6, 82), (7, 98)] (dt := 111) d_M_state_1 (by first | exact hB _ _ | exact hB0 _ _ | exact hBt _ _ | exact ⟨by omega, by omega⟩) ?_
  refine ⟨fun h1 => ?_, fun h1_0 => ?_⟩
  · show pe_G _ _ _ _ _ _
    refine pe_aload_n d_M_state_48 rfl ?_
    refine pe_geti f_M_117 d_M_state_49 rfl rfl 2 rfl ?_
    refine pe_ri d_M_state_52 ?_
    refine ⟨rfl, ?_⟩
    try dsimp only
    split <;> omega
  refine ⟨fun h1 => ?_, fun h1_1 => ?_⟩
  · show pe_G _ _ _ _ _ _
    refine pe_aload_n d_M_state_53 rfl ?_
    refine pe_geti f_M_13 d_M_state_54 rfl rfl 3 rfl ?_
    refine pe_iconst d_M_state_57 ?_
    refine pe_iadd d_M_state_58 ?_
    refine pe_ri d_M_state_59 ?_
    refine ⟨rfl, ?_⟩
    try dsimp only
    split <;> omega
  refine ⟨fun h1 => ?_, fun h1_2 => ?_⟩
  · show pe_G _ _ _ _ _ _
    refine pe_aload_n d_M_state_60 rfl ?_
    refine pe_geti f_M_132 d_M_state_61 rfl rfl 5 rfl ?_
    refine pe_ri d_M_state_64 ?_
    refine ⟨rfl, ?_⟩
    try dsimp only
    split <;> omega
  refine ⟨fun h1 => ?_, fun h1_3 => ?_⟩
  · show pe_G _ _ _ _ _ _
    refine pe_aload_n d_M_state_65 rfl ?_
    refine pe_geti f_M_111 d_M_state_66 rfl rfl 7 rfl ?_
    refine pe_ri d_M_state_69 ?_
    refine ⟨rfl, ?_⟩
    try dsimp only
    split <;> omega
  refine ⟨fun h1 => ?_, fun h1_4 => ?_⟩
  · show pe_G _ _ _ _ _ _
    refine pe_aload_n d_M_state_70 rfl ?_
    refine pe_geti f_M_20 d_M_state_71 rfl rfl 6 rfl ?_
    refine pe_iconst d_M_state_74 ?_
    refine pe_iadd d_M_state_75 ?_
    refine pe_ri d_M_state_76 ?_
    refine ⟨rfl, ?_⟩
    try dsimp only
    split <;> omega
  refine ⟨fun h1 => ?_, fun h1_5 => ?_⟩
  · show pe_G _ _ _ _ _ _
    refine pe_aload_n d_M_state_77 rfl ?_
    refine pe_geti f_M_222 d_M_state_78 rfl rfl 27 rfl ?_
    refine pe_ri d_M_state_81 ?_
    refine ⟨rfl, ?_⟩
    try dsimp only
    split <;> omega
  refine ⟨fun h1 => ?_, fun h1_6 => ?_⟩
  · show pe_G _ _ _ _ _ _
    refine pe_aload_n d_M_state_82 rfl ?_
    refine pe_geti f_M_184 d_M_state_83 rfl rfl 15 rfl ?_
    refine pe_if_le (t := 93) d_M_state_86 (by first | exact hB _ _ | exact hB0 _ _ | exact hBt _ _ | exact ⟨by omega, by omega⟩) (fun h86 => ?_) (fun h86 => ?_)
    · skip
      refine pe_aload_n d_M_state_93 rfl ?_
      refine pe_geti f_M_181 d_M_state_94 rfl rfl 13 rfl ?_
      refine pe_ri d_M_state_97 ?_
      refine ⟨rfl, ?_⟩
      try dsimp only
      split <;> omega
    · skip
      refine pe_iconst d_M_state_89 ?_
      refine pe_goto (t := 97) d_M_state_90 ?_
      refine pe_ri d_M_state_97 ?_
      refine ⟨rfl, ?_⟩
      try dsimp only
      split <;> omega
  refine ⟨fun h1 => ?_, fun h1_7 => ?_⟩
  · show pe_G _ _ _ _ _ _
    refine pe_aload_n d_M_state_98 rfl ?_
    refine pe_geti f_M_147 d_M_state_99 rfl rfl 19 rfl ?_
    refine pe_if_eq (t := 109) d_M_state_102 (by first | exact hB _ _ | exact hB0 _ _ | exact hBt _ _ | exact ⟨by omega, by omega⟩) (fun h102 => ?_) (fun h102 => ?_)
    · skip
      refine pe_iconst d_M_state_109 ?_
      refine pe_ri d_M_state_110 ?_
      refine ⟨rfl, ?_⟩
      try dsimp only
      split <;> omega
    · skip
      refine pe_iconst d_M_state_105 ?_
      refine pe_goto (t := 110) d_M_state_106 ?_
      refine pe_ri d_M_state_110 ?_
      refine ⟨rfl, ?_⟩
      try dsimp only
      split <;> omega
  show pe_G _ _ _ _ _ _
  refine pe_iconst d_M_state_111 ?_
  refine pe_ri d_M_state_112 ?_
  refine ⟨rfl, ?_⟩
  try dsimp only
  split <;> omega
theorem y_M_cell {σ : pe_H} {r c : Int} (hB : pe_B σ) (hW : 1 ≤ σ 29 21 ∧ σ 29 21 ≤ 24 ∧ 1 ≤ σ 29 22 ∧ σ 29 22 ≤ 8) (hz : ∀ j, 0 ≤ j → j < 192 → σ 42 j = 32) (hr : pe_R r) (hc : pe_R c) : pe_M m_M_cell [pe_r 29, pe_i r, pe_i c] σ (pe_qp σ (fun z => z = if 0 ≤ r ∧ r < σ 29 22 ∧ 0 ≤ c ∧ c < σ 29 21 then 32 else -1)) := by
  refine pe_in0 (lv := [some (pe_r 29), some (pe_i r), some (pe_i c)]) ?_
  have hB0 := hB
  refine pe_aload_n d_M_cell_0 rfl ?_
  refine pe_iload_n d_M_cell_1 rfl ?_
  refine pe_iload_n d_M_cell_2 rfl ?_
  refine pe_v2p d_M_cell_3 c_M_309 i_M_isCell s_M_isCell rfl rfl (t_M_isCell hB (by first | exact hB _ _ | exact hB0 _ _ | exact hBt _ _ | exact ⟨by omega, by omega⟩) (by first | exact hB _ _ | exact hB0 _ _ | exact hBt _ _ | exact ⟨by omega, by omega⟩)) (fun z3 hz3 => ?_)
  refine pe_if_eq (t := 25) d_M_cell_6 (by first | exact hB _ _ | exact hB0 _ _ | exact hBt _ _ | exact ⟨by omega, by omega⟩) (fun h6 => ?_) (fun h6 => ?_)
  · skip
    refine pe_iconst d_M_cell_25 ?_
    refine pe_ri d_M_cell_26 ?_
    refine ⟨rfl, ?_⟩
    try dsimp only
    split
    · first | exact hz _ (by omega) (by omega) | omega
    · first | rfl | omega
  · skip
    have hix := pe_ix (r := r) (c := c) (H := σ 29 22) (W := σ 29 21) (by omega) (by omega) (by omega) (by omega)
    refine pe_aload_n d_M_cell_9 rfl ?_
    refine pe_getr f_M_56 d_M_cell_10 rfl rfl ?_
    refine pe_aload_n d_M_cell_13 rfl ?_
    refine pe_geti f_M_78 d_M_cell_14 rfl rfl 21 rfl ?_
    refine pe_iload_n d_M_cell_17 rfl ?_
    refine pe_imul d_M_cell_18 ?_
    refine pe_iload_n d_M_cell_19 rfl ?_
    refine pe_iadd d_M_cell_20 ?_
    refine pe_iald d_M_cell_21 rfl (by omega) (by omega) ?_
    refine pe_goto (t := 26) d_M_cell_22 ?_
    refine pe_ri d_M_cell_26 ?_
    refine ⟨rfl, ?_⟩
    try dsimp only
    split
    · first | exact hz _ (by omega) (by omega) | omega
    · first | rfl | omega
theorem y_M_look {σ : pe_H} {r c : Int} (hB : pe_B σ) (hW : 1 ≤ σ 29 21 ∧ σ 29 21 ≤ 24 ∧ 1 ≤ σ 29 22 ∧ σ 29 22 ≤ 8) (hz : ∀ j, 0 ≤ j → j < 192 → σ 43 j = 0) (hr : pe_R r) (hc : pe_R c) : pe_M m_M_look [pe_r 29, pe_i r, pe_i c] σ (pe_qp σ (fun z => z = if 0 ≤ r ∧ r < σ 29 22 ∧ 0 ≤ c ∧ c < σ 29 21 then 0 else -1)) := by
  refine pe_in0 (lv := [some (pe_r 29), some (pe_i r), some (pe_i c)]) ?_
  have hB0 := hB
  refine pe_aload_n d_M_look_0 rfl ?_
  refine pe_iload_n d_M_look_1 rfl ?_
  refine pe_iload_n d_M_look_2 rfl ?_
  refine pe_v2p d_M_look_3 c_M_309 i_M_isCell s_M_isCell rfl rfl (t_M_isCell hB (by first | exact hB _ _ | exact hB0 _ _ | exact hBt _ _ | exact ⟨by omega, by omega⟩) (by first | exact hB _ _ | exact hB0 _ _ | exact hBt _ _ | exact ⟨by omega, by omega⟩)) (fun z3 hz3 => ?_)
  refine pe_if_eq (t := 25) d_M_look_6 (by first | exact hB _ _ | exact hB0 _ _ | exact hBt _ _ | exact ⟨by omega, by omega⟩) (fun h6 => ?_) (fun h6 => ?_)
  · skip
    refine pe_iconst d_M_look_25 ?_
    refine pe_ri d_M_look_26 ?_
    refine ⟨rfl, ?_⟩
    try dsimp only
    split
    · first | exact hz _ (by omega) (by omega) | omega
    · first | rfl | omega
  · skip
    have hix := pe_ix (r := r) (c := c) (H := σ 29 22) (W := σ 29 21) (by omega) (by omega) (by omega) (by omega)
    refine pe_aload_n d_M_look_9 rfl ?_
    refine pe_getr f_M_59 d_M_look_10 rfl rfl ?_
    refine pe_aload_n d_M_look_13 rfl ?_
    refine pe_geti f_M_78 d_M_look_14 rfl rfl 21 rfl ?_
    refine pe_iload_n d_M_look_17 rfl ?_
    refine pe_imul d_M_look_18 ?_
    refine pe_iload_n d_M_look_19 rfl ?_
    refine pe_iadd d_M_look_20 ?_
    refine pe_iald d_M_look_21 rfl (by omega) (by omega) ?_
    refine pe_goto (t := 26) d_M_look_22 ?_
    refine pe_ri d_M_look_26 ?_
    refine ⟨rfl, ?_⟩
    try dsimp only
    split
    · first | exact hz _ (by omega) (by omega) | omega
    · first | rfl | omega
theorem y_M_terminal {σ : pe_H} {k : Int} (hB : pe_B σ) (hF : σ 29 36 = 0 ∧ σ 29 37 = 0 ∧ σ 29 38 = 0 ∧ σ 29 39 = 0) (hk : pe_R k) : pe_M m_M_terminal [pe_r 29, pe_i k] σ (pe_qp σ (fun z => z = if 0 ≤ k ∧ k ≤ 3 then 0 else -1)) := by
  refine pe_in0 (lv := [some (pe_r 29), some (pe_i k)]) ?_
  have hB0 := hB
  refine pe_iload_n d_M_terminal_0 rfl ?_
  refine pe_tsw [(0, 32), (1, 37), (2, 42), (3, 55)] (dt := 60) d_M_terminal_1 (by first | exact hB _ _ | exact hB0 _ _ | exact hBt _ _ | exact ⟨by omega, by omega⟩) ?_
  refine ⟨fun h1 => ?_, fun h1_0 => ?_⟩
  · show pe_G _ _ _ _ _ _
    refine pe_aload_n d_M_terminal_32 rfl ?_
    refine pe_geti f_M_263 d_M_terminal_33 rfl rfl 36 rfl ?_
    refine pe_ri d_M_terminal_36 ?_
    refine ⟨rfl, ?_⟩
    try dsimp only
    split <;> omega
  refine ⟨fun h1 => ?_, fun h1_1 => ?_⟩
  · show pe_G _ _ _ _ _ _
    refine pe_aload_n d_M_terminal_37 rfl ?_
    refine pe_geti f_M_266 d_M_terminal_38 rfl rfl 37 rfl ?_
    refine pe_ri d_M_terminal_41 ?_
    refine ⟨rfl, ?_⟩
    try dsimp only
    split <;> omega
  refine ⟨fun h1 => ?_, fun h1_2 => ?_⟩
  · show pe_G _ _ _ _ _ _
    refine pe_aload_n d_M_terminal_42 rfl ?_
    refine pe_geti f_M_260 d_M_terminal_43 rfl rfl 38 rfl ?_
    refine pe_if_eq (t := 53) d_M_terminal_46 (by first | exact hB _ _ | exact hB0 _ _ | exact hBt _ _ | exact ⟨by omega, by omega⟩) (fun h46 => ?_) (fun h46 => ?_)
    · skip
      refine pe_iconst d_M_terminal_53 ?_
      refine pe_ri d_M_terminal_54 ?_
      refine ⟨rfl, ?_⟩
      try dsimp only
      split <;> omega
    · skip
      refine pe_iconst d_M_terminal_49 ?_
      refine pe_goto (t := 54) d_M_terminal_50 ?_
      refine pe_ri d_M_terminal_54 ?_
      refine ⟨rfl, ?_⟩
      try dsimp only
      split <;> omega
  refine ⟨fun h1 => ?_, fun h1_3 => ?_⟩
  · show pe_G _ _ _ _ _ _
    refine pe_aload_n d_M_terminal_55 rfl ?_
    refine pe_geti f_M_272 d_M_terminal_56 rfl rfl 39 rfl ?_
    refine pe_ri d_M_terminal_59 ?_
    refine ⟨rfl, ?_⟩
    try dsimp only
    split <;> omega
  show pe_G _ _ _ _ _ _
  refine pe_iconst d_M_terminal_60 ?_
  refine pe_ri d_M_terminal_61 ?_
  refine ⟨rfl, ?_⟩
  try dsimp only
  split <;> omega
theorem y_M_sent {σ : pe_H} {k : Int} (hB : pe_B σ) (hq : σ 29 43 = 0) (hk : pe_R k) : pe_M m_M_sent [pe_r 29, pe_i k] σ (pe_qp σ (fun z => z = -1)) := by
  refine pe_in0 (lv := [some (pe_r 29), some (pe_i k)]) ?_
  have hB0 := hB
  refine pe_iload_n d_M_sent_0 rfl ?_
  refine pe_if_lt (t := 12) d_M_sent_1 (by first | exact hB _ _ | exact hB0 _ _ | exact hBt _ _ | exact ⟨by omega, by omega⟩) (fun h1 => ?_) (fun h1 => ?_)
  · skip
    refine pe_iconst d_M_sent_12 ?_
    refine pe_goto (t := 22) d_M_sent_13 ?_
    refine pe_ri d_M_sent_22 ?_
    exact ⟨rfl, rfl⟩
  · skip
    refine pe_iload_n d_M_sent_4 rfl ?_
    refine pe_aload_n d_M_sent_5 rfl ?_
    refine pe_geti f_M_250 d_M_sent_6 rfl rfl 43 rfl ?_
    refine pe_icmp_lt (t := 16) d_M_sent_9 (by first | exact hB _ _ | exact hB0 _ _ | exact hBt _ _ | exact ⟨by omega, by omega⟩) (by first | exact hB _ _ | exact hB0 _ _ | exact hBt _ _ | exact ⟨by omega, by omega⟩) (fun h9 => ?_) (fun h9 => ?_)
    · skip
      exfalso; omega
    · skip
      refine pe_iconst d_M_sent_12 ?_
      refine pe_goto (t := 22) d_M_sent_13 ?_
      refine pe_ri d_M_sent_22 ?_
      exact ⟨rfl, rfl⟩
theorem y_M_tick {σ : pe_H} (hB : pe_B σ) (hF : σ 29 1 = 0 ∧ σ 29 13 = 0 ∧ σ 29 15 = 0) : pe_M m_M_tick [pe_r 29] σ (pe_qp σ (fun z => z = 0)) := by
  refine pe_in0 (lv := [some (pe_r 29)]) ?_
  have hB0 := hB
  refine pe_aload_n d_M_tick_0 rfl ?_
  refine pe_geti f_M_184 d_M_tick_1 rfl rfl 15 rfl ?_
  refine pe_if_le (t := 21) d_M_tick_4 (by first | exact hB _ _ | exact hB0 _ _ | exact hBt _ _ | exact ⟨by omega, by omega⟩) (fun h4 => ?_) (fun h4 => ?_)
  · skip
    refine pe_aload_n d_M_tick_21 rfl ?_
    refine pe_geti f_M_181 d_M_tick_22 rfl rfl 13 rfl ?_
    refine pe_iconst d_M_tick_25 ?_
    refine pe_icmp_ne (t := 41) d_M_tick_26 (by first | exact hB _ _ | exact hB0 _ _ | exact hBt _ _ | exact ⟨by omega, by omega⟩) (by first | exact hB _ _ | exact hB0 _ _ | exact hBt _ _ | exact ⟨by omega, by omega⟩) (fun h26 => ?_) (fun h26 => ?_)
    · skip
      refine pe_aload_n d_M_tick_41 rfl ?_
      refine pe_geti f_M_181 d_M_tick_42 rfl rfl 13 rfl ?_
      refine pe_iconst d_M_tick_45 ?_
      refine pe_icmp_ne (t := 54) d_M_tick_46 (by first | exact hB _ _ | exact hB0 _ _ | exact hBt _ _ | exact ⟨by omega, by omega⟩) (by first | exact hB _ _ | exact hB0 _ _ | exact hBt _ _ | exact ⟨by omega, by omega⟩) (fun h46 => ?_) (fun h46 => ?_)
      · skip
        refine pe_aload_n d_M_tick_54 rfl ?_
        refine pe_geti f_M_87 d_M_tick_55 rfl rfl 1 rfl ?_
        refine pe_ri d_M_tick_58 ?_
        exact ⟨rfl, by omega⟩
      · skip
        exfalso; omega
    · skip
      exfalso; omega
  · skip
    exfalso; omega
