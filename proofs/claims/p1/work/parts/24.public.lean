/-- the class between two calls -/
def pe_CI (σ : pe_H) : Prop := pe_EI σ ∧ (1 ≤ σ 18 2 ∧ σ 18 2 ≤ 24 ∧ 1 ≤ σ 18 3 ∧ σ 18 3 ≤ 8) ∧ (1 ≤ σ 25 2 ∧ σ 25 2 ≤ 24 ∧ 1 ≤ σ 25 3 ∧ σ 25 3 ≤ 8) ∧ (0 ≤ σ 24 1 ∧ σ 24 1 ≤ 8 ∧ 0 ≤ σ 24 2 ∧ σ 24 2 ≤ 24) ∧ (0 ≤ σ 23 2 ∧ σ 23 2 ≤ 2048) ∧ (-10 ≤ σ 17 2 ∧ σ 17 2 ≤ 500) ∧ (0 ≤ σ 17 3 ∧ σ 17 3 ≤ 8) ∧ (0 ≤ σ 17 4 ∧ σ 17 4 ≤ 24) ∧ (σ 21 1 = 0 ∧ 0 ≤ σ 21 3 ∧ σ 21 3 ≤ 16)
theorem t_P_text {σ : pe_H} {k : Int} (hB : pe_B σ) (hC : pe_CI σ) (hk : pe_R k) : pe_M m_P_text [pe_r 0, pe_i k] σ (pe_qp σ (fun z => pe_R z)) := by
  refine pe_in0 (lv := [some (pe_r 0), some (pe_i k)]) ?_
  have hB0 := hB
  have hC0 := hC
  obtain ⟨hE, hd18, hd25, htt, hqq, htop, hcr, hcc, hsb⟩ := hC
  have hE0 := hE
  obtain ⟨hh, hL, hcu, hma, hcl, hco⟩ := hE
  have hlen := pe_ch_len hh.2.2
  refine pe_aload_n d_P_text_0 rfl ?_
  refine pe_getr f_P_30 d_P_text_1 rfl rfl ?_
  refine pe_getr f_P_60 d_P_text_4 rfl rfl ?_
  refine pe_iload_n d_P_text_7 rfl ?_
  refine pe_v1p d_P_text_8 c_P_124 i_T_codeAt s_T_codeAt rfl rfl (t_T_codeAt hB (by first | exact hB _ _ | exact hB0 _ _ | exact hBt _ _ | exact ⟨by omega, by omega⟩) (by omega)) (fun z8 hz8 => ?_)
  have hR8 : pe_R z8 := by rw [hz8]; split <;> first | exact hB _ _ | exact ⟨by omega, by omega⟩
  refine pe_ri d_P_text_11 ?_
  exact ⟨rfl, hR8⟩
theorem t_P_state {σ : pe_H} {k : Int} (hB : pe_B σ) (hC : pe_CI σ) (hk : pe_R k) : pe_M m_P_state [pe_r 0, pe_i k] σ (pe_qp σ (fun z => True)) := by
  refine pe_in0 (lv := [some (pe_r 0), some (pe_i k)]) ?_
  have hB0 := hB
  have hC0 := hC
  obtain ⟨hE, hd18, hd25, htt, hqq, htop, hcr, hcc, hsb⟩ := hC
  have hE0 := hE
  obtain ⟨hh, hL, hcu, hma, hcl, hco⟩ := hE
  have hlen := pe_ch_len hh.2.2
  refine pe_iload_n d_P_state_0 rfl ?_
  refine pe_tsw [(0, 48), (1, 56), (2, 66), (3, 74), (4, 85), (5, 95), (6, 103), (7, 111)] (dt := 127) d_P_state_1 (by first | exact hB _ _ | exact hB0 _ _ | exact hBt _ _ | exact ⟨by omega, by omega⟩) ?_
  refine ⟨fun h1 => ?_, fun h1_0 => ?_⟩
  · show pe_G _ _ _ _ _ _
    refine pe_aload_n d_P_state_48 rfl ?_
    refine pe_getr f_P_30 d_P_state_49 rfl rfl ?_
    refine pe_geti f_P_127 d_P_state_52 rfl rfl 7 rfl ?_
    refine pe_ri d_P_state_55 ?_
    exact ⟨rfl, trivial⟩
  refine ⟨fun h1 => ?_, fun h1_1 => ?_⟩
  · show pe_G _ _ _ _ _ _
    refine pe_aload_n d_P_state_56 rfl ?_
    refine pe_getr f_P_30 d_P_state_57 rfl rfl ?_
    refine pe_geti f_P_130 d_P_state_60 rfl rfl 8 rfl ?_
    refine pe_iconst d_P_state_63 ?_
    refine pe_iadd d_P_state_64 ?_
    refine pe_ri d_P_state_65 ?_
    exact ⟨rfl, trivial⟩
  refine ⟨fun h1 => ?_, fun h1_2 => ?_⟩
  · show pe_G _ _ _ _ _ _
    refine pe_aload_n d_P_state_66 rfl ?_
    refine pe_getr f_P_30 d_P_state_67 rfl rfl ?_
    refine pe_geti f_P_133 d_P_state_70 rfl rfl 5 rfl ?_
    refine pe_ri d_P_state_73 ?_
    exact ⟨rfl, trivial⟩
  refine ⟨fun h1 => ?_, fun h1_3 => ?_⟩
  · show pe_G _ _ _ _ _ _
    refine pe_aload_n d_P_state_74 rfl ?_
    refine pe_getr f_P_30 d_P_state_75 rfl rfl ?_
    refine pe_getr f_P_136 d_P_state_78 rfl rfl ?_
    refine pe_geti f_P_140 d_P_state_81 rfl rfl 6 rfl ?_
    refine pe_ri d_P_state_84 ?_
    exact ⟨rfl, trivial⟩
  refine ⟨fun h1 => ?_, fun h1_4 => ?_⟩
  · show pe_G _ _ _ _ _ _
    refine pe_aload_n d_P_state_85 rfl ?_
    refine pe_getr f_P_30 d_P_state_86 rfl rfl ?_
    refine pe_geti f_P_145 d_P_state_89 rfl rfl 9 rfl ?_
    refine pe_iconst d_P_state_92 ?_
    refine pe_iadd d_P_state_93 ?_
    refine pe_ri d_P_state_94 ?_
    exact ⟨rfl, trivial⟩
  refine ⟨fun h1 => ?_, fun h1_5 => ?_⟩
  · show pe_G _ _ _ _ _ _
    refine pe_aload_n d_P_state_95 rfl ?_
    refine pe_getr f_P_39 d_P_state_96 rfl rfl ?_
    refine pe_geti f_P_148 d_P_state_99 rfl rfl 2 rfl ?_
    refine pe_ri d_P_state_102 ?_
    exact ⟨rfl, trivial⟩
  refine ⟨fun h1 => ?_, fun h1_6 => ?_⟩
  · show pe_G _ _ _ _ _ _
    refine pe_aload_n d_P_state_103 rfl ?_
    refine pe_getr f_P_21 d_P_state_104 rfl rfl ?_
    refine pe_geti f_P_151 d_P_state_107 rfl rfl 0 rfl ?_
    refine pe_ri d_P_state_110 ?_
    exact ⟨rfl, trivial⟩
  refine ⟨fun h1 => ?_, fun h1_7 => ?_⟩
  · show pe_G _ _ _ _ _ _
    refine pe_aload_n d_P_state_111 rfl ?_
    refine pe_getr f_P_30 d_P_state_112 rfl rfl ?_
    refine pe_geti f_P_154 d_P_state_115 rfl rfl 10 rfl ?_
    refine pe_if_eq (t := 125) d_P_state_118 (by first | exact hB _ _ | exact hB0 _ _ | exact hBt _ _ | exact ⟨by omega, by omega⟩) (fun h118 => ?_) (fun h118 => ?_)
    · skip
      refine pe_iconst d_P_state_125 ?_
      refine pe_ri d_P_state_126 ?_
      exact ⟨rfl, trivial⟩
    · skip
      refine pe_iconst d_P_state_121 ?_
      refine pe_goto (t := 126) d_P_state_122 ?_
      refine pe_ri d_P_state_126 ?_
      exact ⟨rfl, trivial⟩
  show pe_G _ _ _ _ _ _
  refine pe_iconst d_P_state_127 ?_
  refine pe_ri d_P_state_128 ?_
  exact ⟨rfl, trivial⟩
theorem t_P_terminal {σ : pe_H} {k : Int} (hB : pe_B σ) (hC : pe_CI σ) (hk : pe_R k) : pe_M m_P_terminal [pe_r 0, pe_i k] σ (pe_qp σ (fun z => True)) := by
  refine pe_in0 (lv := [some (pe_r 0), some (pe_i k), none]) ?_
  have hB0 := hB
  have hC0 := hC
  obtain ⟨hE, hd18, hd25, htt, hqq, htop, hcr, hcc, hsb⟩ := hC
  have hE0 := hE
  obtain ⟨hh, hL, hcu, hma, hcl, hco⟩ := hE
  have hlen := pe_ch_len hh.2.2
  refine pe_aload_n d_P_terminal_0 rfl ?_
  refine pe_getr f_P_46 d_P_terminal_1 rfl rfl ?_
  refine pe_getr f_P_90 d_P_terminal_4 rfl rfl ?_
  refine pe_astore_n d_P_terminal_7 ?_
  refine pe_iload_n d_P_terminal_8 rfl ?_
  refine pe_tsw [(0, 40), (1, 45), (2, 50), (3, 63)] (dt := 68) d_P_terminal_9 (by first | exact hB _ _ | exact hB0 _ _ | exact hBt _ _ | exact ⟨by omega, by omega⟩) ?_
  refine ⟨fun h9 => ?_, fun h9_0 => ?_⟩
  · show pe_G _ _ _ _ _ _
    refine pe_aload_n d_P_terminal_40 rfl ?_
    refine pe_geti f_P_164 d_P_terminal_41 rfl rfl 1 rfl ?_
    refine pe_ri d_P_terminal_44 ?_
    exact ⟨rfl, trivial⟩
  refine ⟨fun h9 => ?_, fun h9_1 => ?_⟩
  · show pe_G _ _ _ _ _ _
    refine pe_aload_n d_P_terminal_45 rfl ?_
    refine pe_geti f_P_167 d_P_terminal_46 rfl rfl 2 rfl ?_
    refine pe_ri d_P_terminal_49 ?_
    exact ⟨rfl, trivial⟩
  refine ⟨fun h9 => ?_, fun h9_2 => ?_⟩
  · show pe_G _ _ _ _ _ _
    refine pe_aload_n d_P_terminal_50 rfl ?_
    refine pe_geti f_P_170 d_P_terminal_51 rfl rfl 3 rfl ?_
    refine pe_if_eq (t := 61) d_P_terminal_54 (by first | exact hB _ _ | exact hB0 _ _ | exact hBt _ _ | exact ⟨by omega, by omega⟩) (fun h54 => ?_) (fun h54 => ?_)
    · skip
      refine pe_iconst d_P_terminal_61 ?_
      refine pe_ri d_P_terminal_62 ?_
      exact ⟨rfl, trivial⟩
    · skip
      refine pe_iconst d_P_terminal_57 ?_
      refine pe_goto (t := 62) d_P_terminal_58 ?_
      refine pe_ri d_P_terminal_62 ?_
      exact ⟨rfl, trivial⟩
  refine ⟨fun h9 => ?_, fun h9_3 => ?_⟩
  · show pe_G _ _ _ _ _ _
    refine pe_aload_n d_P_terminal_63 rfl ?_
    refine pe_geti f_P_173 d_P_terminal_64 rfl rfl 4 rfl ?_
    refine pe_ri d_P_terminal_67 ?_
    exact ⟨rfl, trivial⟩
  show pe_G _ _ _ _ _ _
  refine pe_iconst d_P_terminal_68 ?_
  refine pe_ri d_P_terminal_69 ?_
  exact ⟨rfl, trivial⟩
theorem t_P_cell {σ : pe_H} {r c : Int} (hB : pe_B σ) (hC : pe_CI σ) (hr : pe_R r) (hc : pe_R c) : pe_M m_P_cell [pe_r 0, pe_i r, pe_i c] σ (pe_qp σ (fun z => True)) := by
  refine pe_in0 (lv := [some (pe_r 0), some (pe_i r), some (pe_i c)]) ?_
  have hB0 := hB
  have hC0 := hC
  obtain ⟨hE, hd18, hd25, htt, hqq, htop, hcr, hcc, hsb⟩ := hC
  have hE0 := hE
  obtain ⟨hh, hL, hcu, hma, hcl, hco⟩ := hE
  have hlen := pe_ch_len hh.2.2
  refine pe_aload_n d_P_cell_0 rfl ?_
  refine pe_getr f_P_46 d_P_cell_1 rfl rfl ?_
  refine pe_getr f_P_90 d_P_cell_4 rfl rfl ?_
  refine pe_getr f_P_157 d_P_cell_7 rfl rfl ?_
  refine pe_iload_n d_P_cell_10 rfl ?_
  refine pe_iload_n d_P_cell_11 rfl ?_
  refine pe_v2p d_P_cell_12 c_P_158 i_G_clusterAt s_G_clusterAt rfl rfl (t_G_clusterAt_25 hB (by omega) (by first | exact hB _ _ | exact hB0 _ _ | exact hBt _ _ | exact ⟨by omega, by omega⟩) (by first | exact hB _ _ | exact hB0 _ _ | exact hBt _ _ | exact ⟨by omega, by omega⟩)) (fun z12 hz12 => ?_)
  refine pe_ri d_P_cell_15 ?_
  exact ⟨rfl, trivial⟩
theorem t_P_look {σ : pe_H} {r c : Int} (hB : pe_B σ) (hC : pe_CI σ) (hr : pe_R r) (hc : pe_R c) : pe_M m_P_look [pe_r 0, pe_i r, pe_i c] σ (pe_qp σ (fun z => True)) := by
  refine pe_in0 (lv := [some (pe_r 0), some (pe_i r), some (pe_i c)]) ?_
  have hB0 := hB
  have hC0 := hC
  obtain ⟨hE, hd18, hd25, htt, hqq, htop, hcr, hcc, hsb⟩ := hC
  have hE0 := hE
  obtain ⟨hh, hL, hcu, hma, hcl, hco⟩ := hE
  have hlen := pe_ch_len hh.2.2
  refine pe_aload_n d_P_look_0 rfl ?_
  refine pe_getr f_P_46 d_P_look_1 rfl rfl ?_
  refine pe_getr f_P_90 d_P_look_4 rfl rfl ?_
  refine pe_getr f_P_157 d_P_look_7 rfl rfl ?_
  refine pe_iload_n d_P_look_10 rfl ?_
  refine pe_iload_n d_P_look_11 rfl ?_
  refine pe_v2p d_P_look_12 c_P_161 i_G_lookAt s_G_lookAt rfl rfl (t_G_lookAt_25 hB (by omega) (by first | exact hB _ _ | exact hB0 _ _ | exact hBt _ _ | exact ⟨by omega, by omega⟩) (by first | exact hB _ _ | exact hB0 _ _ | exact hBt _ _ | exact ⟨by omega, by omega⟩)) (fun z12 hz12 => ?_)
  refine pe_ri d_P_look_15 ?_
  exact ⟨rfl, trivial⟩
theorem t_P_sent {σ : pe_H} {k : Int} (hB : pe_B σ) (hC : pe_CI σ) (hk : pe_R k) : pe_M m_P_sent [pe_r 0, pe_i k] σ (pe_qp σ (fun z => True)) := by
  refine pe_in0 (lv := [some (pe_r 0), some (pe_i k)]) ?_
  have hB0 := hB
  have hC0 := hC
  obtain ⟨hE, hd18, hd25, htt, hqq, htop, hcr, hcc, hsb⟩ := hC
  have hE0 := hE
  obtain ⟨hh, hL, hcu, hma, hcl, hco⟩ := hE
  have hlen := pe_ch_len hh.2.2
  refine pe_aload_n d_P_sent_0 rfl ?_
  refine pe_getr f_P_46 d_P_sent_1 rfl rfl ?_
  refine pe_iload_n d_P_sent_4 rfl ?_
  refine pe_v1p d_P_sent_5 c_P_176 i_Q_byteAt s_Q_byteAt rfl rfl (t_Q_byteAt hB (by omega) (by first | exact hB _ _ | exact hB0 _ _ | exact hBt _ _ | exact ⟨by omega, by omega⟩)) (fun z5 hz5 => ?_)
  refine pe_ri d_P_sent_8 ?_
  exact ⟨rfl, trivial⟩
theorem t_P_tick {σ : pe_H} (hB : pe_B σ) (hC : pe_CI σ) : pe_M m_P_tick [pe_r 0] σ (pe_qi (fun _ σ' => pe_B σ' ∧ (∀ b, b ∉ [0, 1, 2, 3, 4, 5, 6, 7, 8, 9, 10, 11, 12, 13, 14, 15, 16, 17, 18, 19, 20, 21, 22, 23, 24, 25, 26, 27, 28] → σ' b = σ b) ∧ pe_CI σ')) := by
  refine pe_in0 (lv := [some (pe_r 0)]) ?_
  have hB0 := hB
  have hC0 := hC
  obtain ⟨hE, hd18, hd25, htt, hqq, htop, hcr, hcc, hsb⟩ := hC
  have hE0 := hE
  obtain ⟨hh, hL, hcu, hma, hcl, hco⟩ := hE
  have hlen := pe_ch_len hh.2.2
  refine pe_aload_n d_P_tick_0 rfl ?_
  refine pe_getr f_P_30 d_P_tick_1 rfl rfl ?_
  refine pe_aload_n d_P_tick_4 rfl ?_
  refine pe_getr f_P_21 d_P_tick_5 rfl rfl ?_
  refine pe_v0i d_P_tick_8 c_P_70 i_K_giveUp s_K_giveUp rfl rfl (t_K_giveUp hB) (fun z8 σ8 hz8 => ?_)
  obtain ⟨hB, f8, x8⟩ := hz8
  try have u8_0 : σ8 2 5 = σ 2 5 := by first | exact o8 5 (by decide) | exact congrFun (f8 2 (by decide)) 5
  try have u8_1 : σ8 2 6 = σ 2 6 := by first | exact o8 6 (by decide) | exact congrFun (f8 2 (by decide)) 6
  try have u8_2 : σ8 2 7 = σ 2 7 := by first | exact o8 7 (by decide) | exact congrFun (f8 2 (by decide)) 7
  try have u8_3 : σ8 2 8 = σ 2 8 := by first | exact o8 8 (by decide) | exact congrFun (f8 2 (by decide)) 8
  try have u8_4 : σ8 3 1 = σ 3 1 := by first | exact o8 1 (by decide) | exact congrFun (f8 3 (by decide)) 1
  try have u8_5 : σ8 17 2 = σ 17 2 := by first | exact o8 2 (by decide) | exact congrFun (f8 17 (by decide)) 2
  try have u8_6 : σ8 17 3 = σ 17 3 := by first | exact o8 3 (by decide) | exact congrFun (f8 17 (by decide)) 3
  try have u8_7 : σ8 17 4 = σ 17 4 := by first | exact o8 4 (by decide) | exact congrFun (f8 17 (by decide)) 4
  try have u8_8 : σ8 18 2 = σ 18 2 := by first | exact o8 2 (by decide) | exact congrFun (f8 18 (by decide)) 2
  try have u8_9 : σ8 18 3 = σ 18 3 := by first | exact o8 3 (by decide) | exact congrFun (f8 18 (by decide)) 3
  try have u8_10 : σ8 21 1 = σ 21 1 := by first | exact o8 1 (by decide) | exact congrFun (f8 21 (by decide)) 1
  try have u8_11 : σ8 21 3 = σ 21 3 := by first | exact o8 3 (by decide) | exact congrFun (f8 21 (by decide)) 3
  try have u8_12 : σ8 23 2 = σ 23 2 := by first | exact o8 2 (by decide) | exact congrFun (f8 23 (by decide)) 2
  try have u8_13 : σ8 24 1 = σ 24 1 := by first | exact o8 1 (by decide) | exact congrFun (f8 24 (by decide)) 1
  try have u8_14 : σ8 24 2 = σ 24 2 := by first | exact o8 2 (by decide) | exact congrFun (f8 24 (by decide)) 2
  try have u8_15 : σ8 25 2 = σ 25 2 := by first | exact o8 2 (by decide) | exact congrFun (f8 25 (by decide)) 2
  try have u8_16 : σ8 25 3 = σ 25 3 := by first | exact o8 3 (by decide) | exact congrFun (f8 25 (by decide)) 3
  have hR8 : pe_R z8 := x8
  refine pe_v1v d_P_tick_11 c_P_54 i_E_press s_E_press rfl rfl (t_E_press hB ⟨pe_HI_to hh ((f8 5 (by decide)).trans (rfl)) ((f8 6 (by decide)).trans (rfl)) ((f8 7 (by decide)).trans (rfl)) ((f8 8 (by decide)).trans (rfl)) ((f8 9 (by decide)).trans (rfl)) (congrFun ((f8 3 (by decide)).trans (rfl)) 1), pe_LI_to hL ((f8 12 (by decide)).trans (rfl)) ((f8 13 (by decide)).trans (rfl)) ((f8 14 (by decide)).trans (rfl)), by omega, by omega, by omega, by omega⟩ (by first | exact hB _ _ | exact hB0 _ _ | exact hBt _ _ | exact ⟨by omega, by omega⟩)) (fun σ11 hz11 => ?_)
  obtain ⟨hB, f11, x11⟩ := hz11
  try have u11_0 : σ11 2 5 = σ8 2 5 := by first | exact o11 5 (by decide) | exact congrFun (f11 2 (by decide)) 5
  try have u11_1 : σ11 2 6 = σ8 2 6 := by first | exact o11 6 (by decide) | exact congrFun (f11 2 (by decide)) 6
  try have u11_2 : σ11 2 7 = σ8 2 7 := by first | exact o11 7 (by decide) | exact congrFun (f11 2 (by decide)) 7
  try have u11_3 : σ11 2 8 = σ8 2 8 := by first | exact o11 8 (by decide) | exact congrFun (f11 2 (by decide)) 8
  try have u11_4 : σ11 3 1 = σ8 3 1 := by first | exact o11 1 (by decide) | exact congrFun (f11 3 (by decide)) 1
  try have u11_5 : σ11 17 2 = σ8 17 2 := by first | exact o11 2 (by decide) | exact congrFun (f11 17 (by decide)) 2
  try have u11_6 : σ11 17 3 = σ8 17 3 := by first | exact o11 3 (by decide) | exact congrFun (f11 17 (by decide)) 3
  try have u11_7 : σ11 17 4 = σ8 17 4 := by first | exact o11 4 (by decide) | exact congrFun (f11 17 (by decide)) 4
  try have u11_8 : σ11 18 2 = σ8 18 2 := by first | exact o11 2 (by decide) | exact congrFun (f11 18 (by decide)) 2
  try have u11_9 : σ11 18 3 = σ8 18 3 := by first | exact o11 3 (by decide) | exact congrFun (f11 18 (by decide)) 3
  try have u11_10 : σ11 21 1 = σ8 21 1 := by first | exact o11 1 (by decide) | exact congrFun (f11 21 (by decide)) 1
  try have u11_11 : σ11 21 3 = σ8 21 3 := by first | exact o11 3 (by decide) | exact congrFun (f11 21 (by decide)) 3
  try have u11_12 : σ11 23 2 = σ8 23 2 := by first | exact o11 2 (by decide) | exact congrFun (f11 23 (by decide)) 2
  try have u11_13 : σ11 24 1 = σ8 24 1 := by first | exact o11 1 (by decide) | exact congrFun (f11 24 (by decide)) 1
  try have u11_14 : σ11 24 2 = σ8 24 2 := by first | exact o11 2 (by decide) | exact congrFun (f11 24 (by decide)) 2
  try have u11_15 : σ11 25 2 = σ8 25 2 := by first | exact o11 2 (by decide) | exact congrFun (f11 25 (by decide)) 2
  try have u11_16 : σ11 25 3 = σ8 25 3 := by first | exact o11 3 (by decide) | exact congrFun (f11 25 (by decide)) 3
  refine pe_aload_n d_P_tick_14 rfl ?_
  refine pe_getr f_P_30 d_P_tick_15 rfl rfl ?_
  refine pe_getr f_P_60 d_P_tick_18 rfl rfl ?_
  refine pe_geti f_P_64 d_P_tick_21 rfl rfl 1 rfl ?_
  refine pe_ri d_P_tick_24 ?_
  exact ⟨hB, (fun b hb => (f11 b (by simp at hb ⊢; try omega)).trans ((f8 b (by simp at hb ⊢; try omega)).trans (rfl))), ⟨x11, by omega, by omega, by omega, by omega, by omega, by omega, by omega, by omega⟩⟩
theorem t_P_type {σ : pe_H} {w : Int64} {n : Int} (hB : pe_B σ) (hC : pe_CI σ) (hn : pe_R n) : pe_M m_P_type [pe_r 0, pe_l w, pe_i n] σ (pe_qi (fun _ σ' => pe_B σ' ∧ (∀ b, b ∉ [0, 1, 2, 3, 4, 5, 6, 7, 8, 9, 10, 11, 12, 13, 14, 15, 16, 17, 18, 19, 20, 21, 22, 23, 24, 25, 26, 27, 28] → σ' b = σ b) ∧ pe_CI σ')) := by
  refine pe_in0 (lv := [some (pe_r 0), some (pe_l w), none, some (pe_i n), none, none]) ?_
  have hB0 := hB
  have hC0 := hC
  obtain ⟨hE, hd18, hd25, htt, hqq, htop, hcr, hcc, hsb⟩ := hC
  have hE0 := hE
  obtain ⟨hh, hL, hcu, hma, hcl, hco⟩ := hE
  have hlen := pe_ch_len hh.2.2
  have J16 : ∀ x : Int × pe_H, (pe_B x.2 ∧ (∀ b, b ∉ [0, 1, 2, 3, 4, 5, 6, 7, 8, 9, 10, 11, 12, 13, 14, 15, 16, 17, 18, 19, 20, 21, 22, 23, 24, 25, 26, 27, 28] → x.2 b = σ b) ∧ pe_CI x.2 ∧ (0 ≤ x.1 ∧ x.1 ≤ n ∧ n ≤ 8)) → pe_G m_P_type 16 [some (pe_r 0), some (pe_l w), none, some (pe_i n), some (pe_i x.1), none] [] x.2 (pe_qi (fun _ σ' => pe_B σ' ∧ (∀ b, b ∉ [0, 1, 2, 3, 4, 5, 6, 7, 8, 9, 10, 11, 12, 13, 14, 15, 16, 17, 18, 19, 20, 21, 22, 23, 24, 25, 26, 27, 28] → σ' b = σ b) ∧ pe_CI σ')) := by
    refine pe_loop (fun x : Int × pe_H => (100 - x.1).toNat) _ _ ?_
    intro x hI ih
    obtain ⟨i, τ⟩ := x
    dsimp only at hI ⊢
    obtain ⟨hB, hfr, hX⟩ := hI
    obtain ⟨hC, hX⟩ := hX
    obtain ⟨hE, hd18, hd25, htt, hqq, htop, hcr, hcc, hsb⟩ := hC
    obtain ⟨hh, hL, hcu, hma, hcl, hco⟩ := hE
    have hlen := pe_ch_len hh.2.2
    have hBt := hB
    refine pe_iload d_P_type_16 rfl ?_
    refine pe_iload_n d_P_type_18 rfl ?_
    refine pe_icmp_ge (t := 74) d_P_type_19 (by first | exact hB _ _ | exact hB0 _ _ | exact hBt _ _ | exact ⟨by omega, by omega⟩) (by first | exact hB _ _ | exact hB0 _ _ | exact hBt _ _ | exact ⟨by omega, by omega⟩) (fun h19 => ?_) (fun h19 => ?_)
    · skip
      refine pe_aload_n d_P_type_74 rfl ?_
      refine pe_getr f_P_30 d_P_type_75 rfl rfl ?_
      refine pe_getr f_P_60 d_P_type_78 rfl rfl ?_
      refine pe_geti f_P_64 d_P_type_81 rfl rfl 1 rfl ?_
      refine pe_ri d_P_type_84 ?_
      exact ⟨hB, (fun b hb => hfr b (by simp at hb ⊢; try omega)), ⟨⟨hh, hL, hcu, hma, hcl, hco⟩, hd18, hd25, htt, hqq, htop, hcr, hcc, hsb⟩⟩
    · skip
      refine pe_lload_n d_P_type_22 rfl ?_
      refine pe_bipush d_P_type_23 ?_
      refine pe_iload d_P_type_25 rfl ?_
      refine pe_imul d_P_type_27 ?_
      refine pe_lushr d_P_type_28 rfl ?_
      refine pe_l2i d_P_type_29 (Int32.ofInt_toInt _).symm ?_
      refine pe_any (fun y29 hy29 => ?_)
      refine pe_sipush d_P_type_30 ?_
      refine pe_iand d_P_type_33 (Int32.ofInt_toInt _).symm ?_
      refine pe_any (fun y33 hy33 => ?_)
      refine pe_istore d_P_type_34 ?_
      refine pe_aload_n d_P_type_36 rfl ?_
      refine pe_getr f_P_30 d_P_type_37 rfl rfl ?_
      refine pe_aload_n d_P_type_40 rfl ?_
      refine pe_getr f_P_21 d_P_type_41 rfl rfl ?_
      refine pe_iload d_P_type_44 rfl ?_
      refine pe_v1i d_P_type_46 c_P_50 i_K_leave s_K_leave rfl rfl (t_K_leave hB (by first | exact hB _ _ | exact hB0 _ _ | exact hBt _ _ | exact ⟨by omega, by omega⟩)) (fun z46 σ46 hz46 => ?_)
      obtain ⟨hB, f46, x46⟩ := hz46
      try have u46_0 : σ46 2 5 = τ 2 5 := by first | exact o46 5 (by decide) | exact congrFun (f46 2 (by decide)) 5
      try have u46_1 : σ46 2 6 = τ 2 6 := by first | exact o46 6 (by decide) | exact congrFun (f46 2 (by decide)) 6
      try have u46_2 : σ46 2 7 = τ 2 7 := by first | exact o46 7 (by decide) | exact congrFun (f46 2 (by decide)) 7
      try have u46_3 : σ46 2 8 = τ 2 8 := by first | exact o46 8 (by decide) | exact congrFun (f46 2 (by decide)) 8
      try have u46_4 : σ46 3 1 = τ 3 1 := by first | exact o46 1 (by decide) | exact congrFun (f46 3 (by decide)) 1
      try have u46_5 : σ46 17 2 = τ 17 2 := by first | exact o46 2 (by decide) | exact congrFun (f46 17 (by decide)) 2
      try have u46_6 : σ46 17 3 = τ 17 3 := by first | exact o46 3 (by decide) | exact congrFun (f46 17 (by decide)) 3
      try have u46_7 : σ46 17 4 = τ 17 4 := by first | exact o46 4 (by decide) | exact congrFun (f46 17 (by decide)) 4
      try have u46_8 : σ46 18 2 = τ 18 2 := by first | exact o46 2 (by decide) | exact congrFun (f46 18 (by decide)) 2
      try have u46_9 : σ46 18 3 = τ 18 3 := by first | exact o46 3 (by decide) | exact congrFun (f46 18 (by decide)) 3
      try have u46_10 : σ46 21 1 = τ 21 1 := by first | exact o46 1 (by decide) | exact congrFun (f46 21 (by decide)) 1
      try have u46_11 : σ46 21 3 = τ 21 3 := by first | exact o46 3 (by decide) | exact congrFun (f46 21 (by decide)) 3
      try have u46_12 : σ46 23 2 = τ 23 2 := by first | exact o46 2 (by decide) | exact congrFun (f46 23 (by decide)) 2
      try have u46_13 : σ46 24 1 = τ 24 1 := by first | exact o46 1 (by decide) | exact congrFun (f46 24 (by decide)) 1
      try have u46_14 : σ46 24 2 = τ 24 2 := by first | exact o46 2 (by decide) | exact congrFun (f46 24 (by decide)) 2
      try have u46_15 : σ46 25 2 = τ 25 2 := by first | exact o46 2 (by decide) | exact congrFun (f46 25 (by decide)) 2
      try have u46_16 : σ46 25 3 = τ 25 3 := by first | exact o46 3 (by decide) | exact congrFun (f46 25 (by decide)) 3
      have hR46 : pe_R z46 := x46
      refine pe_v1v d_P_type_49 c_P_54 i_E_press s_E_press rfl rfl (t_E_press hB ⟨pe_HI_to hh (f46 5 (by decide)) (f46 6 (by decide)) (f46 7 (by decide)) (f46 8 (by decide)) (f46 9 (by decide)) (congrFun (f46 3 (by decide)) 1), pe_LI_to hL (f46 12 (by decide)) (f46 13 (by decide)) (f46 14 (by decide)), by omega, by omega, by omega, by omega⟩ (by first | exact hB _ _ | exact hB0 _ _ | exact hBt _ _ | exact ⟨by omega, by omega⟩)) (fun σ49 hz49 => ?_)
      obtain ⟨hB, f49, x49⟩ := hz49
      try have u49_0 : σ49 2 5 = σ46 2 5 := by first | exact o49 5 (by decide) | exact congrFun (f49 2 (by decide)) 5
      try have u49_1 : σ49 2 6 = σ46 2 6 := by first | exact o49 6 (by decide) | exact congrFun (f49 2 (by decide)) 6
      try have u49_2 : σ49 2 7 = σ46 2 7 := by first | exact o49 7 (by decide) | exact congrFun (f49 2 (by decide)) 7
      try have u49_3 : σ49 2 8 = σ46 2 8 := by first | exact o49 8 (by decide) | exact congrFun (f49 2 (by decide)) 8
      try have u49_4 : σ49 3 1 = σ46 3 1 := by first | exact o49 1 (by decide) | exact congrFun (f49 3 (by decide)) 1
      try have u49_5 : σ49 17 2 = σ46 17 2 := by first | exact o49 2 (by decide) | exact congrFun (f49 17 (by decide)) 2
      try have u49_6 : σ49 17 3 = σ46 17 3 := by first | exact o49 3 (by decide) | exact congrFun (f49 17 (by decide)) 3
      try have u49_7 : σ49 17 4 = σ46 17 4 := by first | exact o49 4 (by decide) | exact congrFun (f49 17 (by decide)) 4
      try have u49_8 : σ49 18 2 = σ46 18 2 := by first | exact o49 2 (by decide) | exact congrFun (f49 18 (by decide)) 2
      try have u49_9 : σ49 18 3 = σ46 18 3 := by first | exact o49 3 (by decide) | exact congrFun (f49 18 (by decide)) 3
      try have u49_10 : σ49 21 1 = σ46 21 1 := by first | exact o49 1 (by decide) | exact congrFun (f49 21 (by decide)) 1
      try have u49_11 : σ49 21 3 = σ46 21 3 := by first | exact o49 3 (by decide) | exact congrFun (f49 21 (by decide)) 3
      try have u49_12 : σ49 23 2 = σ46 23 2 := by first | exact o49 2 (by decide) | exact congrFun (f49 23 (by decide)) 2
      try have u49_13 : σ49 24 1 = σ46 24 1 := by first | exact o49 1 (by decide) | exact congrFun (f49 24 (by decide)) 1
      try have u49_14 : σ49 24 2 = σ46 24 2 := by first | exact o49 2 (by decide) | exact congrFun (f49 24 (by decide)) 2
      try have u49_15 : σ49 25 2 = σ46 25 2 := by first | exact o49 2 (by decide) | exact congrFun (f49 25 (by decide)) 2
      try have u49_16 : σ49 25 3 = σ46 25 3 := by first | exact o49 3 (by decide) | exact congrFun (f49 25 (by decide)) 3
      obtain ⟨hh2, hL2, hcu2, hma2, hcl2, hco2⟩ := x49
      have hlen2 := pe_ch_len hh2.2.2
      refine pe_aload_n d_P_type_52 rfl ?_
      refine pe_getr f_P_30 d_P_type_53 rfl rfl ?_
      refine pe_aload_n d_P_type_56 rfl ?_
      refine pe_getr f_P_21 d_P_type_57 rfl rfl ?_
      refine pe_iload d_P_type_60 rfl ?_
      refine pe_v1i d_P_type_62 c_P_57 i_K_take s_K_take rfl rfl (t_K_take hB (by first | exact hB _ _ | exact hB0 _ _ | exact hBt _ _ | exact ⟨by omega, by omega⟩)) (fun z62 σ62 hz62 => ?_)
      obtain ⟨hB, f62, x62⟩ := hz62
      try have u62_0 : σ62 2 5 = σ49 2 5 := by first | exact o62 5 (by decide) | exact congrFun (f62 2 (by decide)) 5
      try have u62_1 : σ62 2 6 = σ49 2 6 := by first | exact o62 6 (by decide) | exact congrFun (f62 2 (by decide)) 6
      try have u62_2 : σ62 2 7 = σ49 2 7 := by first | exact o62 7 (by decide) | exact congrFun (f62 2 (by decide)) 7
      try have u62_3 : σ62 2 8 = σ49 2 8 := by first | exact o62 8 (by decide) | exact congrFun (f62 2 (by decide)) 8
      try have u62_4 : σ62 3 1 = σ49 3 1 := by first | exact o62 1 (by decide) | exact congrFun (f62 3 (by decide)) 1
      try have u62_5 : σ62 17 2 = σ49 17 2 := by first | exact o62 2 (by decide) | exact congrFun (f62 17 (by decide)) 2
      try have u62_6 : σ62 17 3 = σ49 17 3 := by first | exact o62 3 (by decide) | exact congrFun (f62 17 (by decide)) 3
      try have u62_7 : σ62 17 4 = σ49 17 4 := by first | exact o62 4 (by decide) | exact congrFun (f62 17 (by decide)) 4
      try have u62_8 : σ62 18 2 = σ49 18 2 := by first | exact o62 2 (by decide) | exact congrFun (f62 18 (by decide)) 2
      try have u62_9 : σ62 18 3 = σ49 18 3 := by first | exact o62 3 (by decide) | exact congrFun (f62 18 (by decide)) 3
      try have u62_10 : σ62 21 1 = σ49 21 1 := by first | exact o62 1 (by decide) | exact congrFun (f62 21 (by decide)) 1
      try have u62_11 : σ62 21 3 = σ49 21 3 := by first | exact o62 3 (by decide) | exact congrFun (f62 21 (by decide)) 3
      try have u62_12 : σ62 23 2 = σ49 23 2 := by first | exact o62 2 (by decide) | exact congrFun (f62 23 (by decide)) 2
      try have u62_13 : σ62 24 1 = σ49 24 1 := by first | exact o62 1 (by decide) | exact congrFun (f62 24 (by decide)) 1
      try have u62_14 : σ62 24 2 = σ49 24 2 := by first | exact o62 2 (by decide) | exact congrFun (f62 24 (by decide)) 2
      try have u62_15 : σ62 25 2 = σ49 25 2 := by first | exact o62 2 (by decide) | exact congrFun (f62 25 (by decide)) 2
      try have u62_16 : σ62 25 3 = σ49 25 3 := by first | exact o62 3 (by decide) | exact congrFun (f62 25 (by decide)) 3
      have hR62 : pe_R z62 := x62
      refine pe_v1v d_P_type_65 c_P_54 i_E_press s_E_press rfl rfl (t_E_press hB ⟨pe_HI_to hh2 (f62 5 (by decide)) (f62 6 (by decide)) (f62 7 (by decide)) (f62 8 (by decide)) (f62 9 (by decide)) (congrFun (f62 3 (by decide)) 1), pe_LI_to hL2 (f62 12 (by decide)) (f62 13 (by decide)) (f62 14 (by decide)), by omega, by omega, by omega, by omega⟩ (by first | exact hB _ _ | exact hB0 _ _ | exact hBt _ _ | exact ⟨by omega, by omega⟩)) (fun σ65 hz65 => ?_)
      obtain ⟨hB, f65, x65⟩ := hz65
      try have u65_0 : σ65 2 5 = σ62 2 5 := by first | exact o65 5 (by decide) | exact congrFun (f65 2 (by decide)) 5
      try have u65_1 : σ65 2 6 = σ62 2 6 := by first | exact o65 6 (by decide) | exact congrFun (f65 2 (by decide)) 6
      try have u65_2 : σ65 2 7 = σ62 2 7 := by first | exact o65 7 (by decide) | exact congrFun (f65 2 (by decide)) 7
      try have u65_3 : σ65 2 8 = σ62 2 8 := by first | exact o65 8 (by decide) | exact congrFun (f65 2 (by decide)) 8
      try have u65_4 : σ65 3 1 = σ62 3 1 := by first | exact o65 1 (by decide) | exact congrFun (f65 3 (by decide)) 1
      try have u65_5 : σ65 17 2 = σ62 17 2 := by first | exact o65 2 (by decide) | exact congrFun (f65 17 (by decide)) 2
      try have u65_6 : σ65 17 3 = σ62 17 3 := by first | exact o65 3 (by decide) | exact congrFun (f65 17 (by decide)) 3
      try have u65_7 : σ65 17 4 = σ62 17 4 := by first | exact o65 4 (by decide) | exact congrFun (f65 17 (by decide)) 4
      try have u65_8 : σ65 18 2 = σ62 18 2 := by first | exact o65 2 (by decide) | exact congrFun (f65 18 (by decide)) 2
      try have u65_9 : σ65 18 3 = σ62 18 3 := by first | exact o65 3 (by decide) | exact congrFun (f65 18 (by decide)) 3
      try have u65_10 : σ65 21 1 = σ62 21 1 := by first | exact o65 1 (by decide) | exact congrFun (f65 21 (by decide)) 1
      try have u65_11 : σ65 21 3 = σ62 21 3 := by first | exact o65 3 (by decide) | exact congrFun (f65 21 (by decide)) 3
      try have u65_12 : σ65 23 2 = σ62 23 2 := by first | exact o65 2 (by decide) | exact congrFun (f65 23 (by decide)) 2
      try have u65_13 : σ65 24 1 = σ62 24 1 := by first | exact o65 1 (by decide) | exact congrFun (f65 24 (by decide)) 1
      try have u65_14 : σ65 24 2 = σ62 24 2 := by first | exact o65 2 (by decide) | exact congrFun (f65 24 (by decide)) 2
      try have u65_15 : σ65 25 2 = σ62 25 2 := by first | exact o65 2 (by decide) | exact congrFun (f65 25 (by decide)) 2
      try have u65_16 : σ65 25 3 = σ62 25 3 := by first | exact o65 3 (by decide) | exact congrFun (f65 25 (by decide)) 3
      refine pe_iinc d_P_type_68 rfl ?_
      refine pe_goto (t := 16) d_P_type_71 ?_
      exact pe_drop 5 (ih (_, _) ⟨hB, (fun b hb => (f65 b (by simp at hb ⊢; try omega)).trans ((f62 b (by simp at hb ⊢; try omega)).trans ((f49 b (by simp at hb ⊢; try omega)).trans ((f46 b (by simp at hb ⊢; try omega)).trans (hfr b (by simp at hb ⊢; try omega)))))), ⟨x65, by (try dsimp only); omega, by (try dsimp only); omega, by (try dsimp only); omega, by (try dsimp only); omega, by (try dsimp only); omega, by (try dsimp only); omega, by (try dsimp only); omega, by (try dsimp only); omega⟩, by (try dsimp only); omega⟩ (by (try dsimp only); omega))
  refine pe_iload_n d_P_type_0 rfl ?_
  refine pe_iconst d_P_type_1 ?_
  refine pe_icmp_lt (t := 11) d_P_type_2 (by first | exact hB _ _ | exact hB0 _ _ | exact hBt _ _ | exact ⟨by omega, by omega⟩) (by first | exact hB _ _ | exact hB0 _ _ | exact hBt _ _ | exact ⟨by omega, by omega⟩) (fun h2 => ?_) (fun h2 => ?_)
  · skip
    refine pe_iconst d_P_type_11 ?_
    refine pe_ri d_P_type_12 ?_
    exact ⟨hB, (fun b hb => rfl), hC0⟩
  · skip
    refine pe_iload_n d_P_type_5 rfl ?_
    refine pe_bipush d_P_type_6 ?_
    refine pe_icmp_le (t := 13) d_P_type_8 (by first | exact hB _ _ | exact hB0 _ _ | exact hBt _ _ | exact ⟨by omega, by omega⟩) (by first | exact hB _ _ | exact hB0 _ _ | exact hBt _ _ | exact ⟨by omega, by omega⟩) (fun h8 => ?_) (fun h8 => ?_)
    · skip
      refine pe_iconst d_P_type_13 ?_
      refine pe_istore d_P_type_14 ?_
      exact J16 (_, _) ⟨hB, (fun b hb => rfl), hC0, by (try dsimp only); omega⟩
    · skip
      refine pe_iconst d_P_type_11 ?_
      refine pe_ri d_P_type_12 ?_
      exact ⟨hB, (fun b hb => rfl), hC0⟩
theorem t_P_size {σ : pe_H} {c r : Int} (hB : pe_B σ) (hC : pe_CI σ) (hc : pe_R c) (hr : pe_R r) : pe_M m_P_size [pe_r 0, pe_i c, pe_i r] σ (pe_qi (fun z σ' => pe_B σ' ∧ (∀ b, b ∉ [0, 1, 2, 3, 4, 5, 6, 7, 8, 9, 10, 11, 12, 13, 14, 15, 16, 17, 18, 19, 20, 21, 22, 23, 24, 25, 26, 27, 28] → σ' b = σ b) ∧ pe_CI σ' ∧ (z = 0 ∨ z = 1) ∧ (z = 1 ↔ 1 ≤ c ∧ c ≤ 24 ∧ 1 ≤ r ∧ r ≤ 8))) := by
  refine pe_in0 (lv := [some (pe_r 0), some (pe_i c), some (pe_i r)]) ?_
  have hB0 := hB
  have hC0 := hC
  obtain ⟨hE, hd18, hd25, htt, hqq, htop, hcr, hcc, hsb⟩ := hC
  have hE0 := hE
  obtain ⟨hh, hL, hcu, hma, hcl, hco⟩ := hE
  have hlen := pe_ch_len hh.2.2
  refine pe_iload_n d_P_size_0 rfl ?_
  refine pe_iconst d_P_size_1 ?_
  refine pe_icmp_lt (t := 22) d_P_size_2 (by first | exact hB _ _ | exact hB0 _ _ | exact hBt _ _ | exact ⟨by omega, by omega⟩) (by first | exact hB _ _ | exact hB0 _ _ | exact hBt _ _ | exact ⟨by omega, by omega⟩) (fun h2 => ?_) (fun h2 => ?_)
  · skip
    refine pe_iconst d_P_size_22 ?_
    refine pe_rz d_P_size_23 (by first | exact Or.inl rfl | exact Or.inr rfl | omega) ?_
    first | exact ⟨hB, (fun b hb => rfl), hC0, by omega, by omega⟩ | exact ⟨hB, (fun b hb => rfl), ⟨⟨pe_HI_to hh (rfl) (rfl) (rfl) (rfl) (rfl) (congrFun (rfl) 1), pe_LI_to hL (rfl) (rfl) (rfl), by omega, by omega, by omega, by omega⟩, by omega, by omega, by omega, by omega, by omega, by omega, by omega, by omega⟩, by omega, by omega⟩
  · skip
    refine pe_iload_n d_P_size_5 rfl ?_
    refine pe_bipush d_P_size_6 ?_
    refine pe_icmp_gt (t := 22) d_P_size_8 (by first | exact hB _ _ | exact hB0 _ _ | exact hBt _ _ | exact ⟨by omega, by omega⟩) (by first | exact hB _ _ | exact hB0 _ _ | exact hBt _ _ | exact ⟨by omega, by omega⟩) (fun h8 => ?_) (fun h8 => ?_)
    · skip
      refine pe_iconst d_P_size_22 ?_
      refine pe_rz d_P_size_23 (by first | exact Or.inl rfl | exact Or.inr rfl | omega) ?_
      first | exact ⟨hB, (fun b hb => rfl), hC0, by omega, by omega⟩ | exact ⟨hB, (fun b hb => rfl), ⟨⟨pe_HI_to hh (rfl) (rfl) (rfl) (rfl) (rfl) (congrFun (rfl) 1), pe_LI_to hL (rfl) (rfl) (rfl), by omega, by omega, by omega, by omega⟩, by omega, by omega, by omega, by omega, by omega, by omega, by omega, by omega⟩, by omega, by omega⟩
    · skip
      refine pe_iload_n d_P_size_11 rfl ?_
      refine pe_iconst d_P_size_12 ?_
      refine pe_icmp_lt (t := 22) d_P_size_13 (by first | exact hB _ _ | exact hB0 _ _ | exact hBt _ _ | exact ⟨by omega, by omega⟩) (by first | exact hB _ _ | exact hB0 _ _ | exact hBt _ _ | exact ⟨by omega, by omega⟩) (fun h13 => ?_) (fun h13 => ?_)
      · skip
        refine pe_iconst d_P_size_22 ?_
        refine pe_rz d_P_size_23 (by first | exact Or.inl rfl | exact Or.inr rfl | omega) ?_
        first | exact ⟨hB, (fun b hb => rfl), hC0, by omega, by omega⟩ | exact ⟨hB, (fun b hb => rfl), ⟨⟨pe_HI_to hh (rfl) (rfl) (rfl) (rfl) (rfl) (congrFun (rfl) 1), pe_LI_to hL (rfl) (rfl) (rfl), by omega, by omega, by omega, by omega⟩, by omega, by omega, by omega, by omega, by omega, by omega, by omega, by omega⟩, by omega, by omega⟩
      · skip
        refine pe_iload_n d_P_size_16 rfl ?_
        refine pe_bipush d_P_size_17 ?_
        refine pe_icmp_le (t := 24) d_P_size_19 (by first | exact hB _ _ | exact hB0 _ _ | exact hBt _ _ | exact ⟨by omega, by omega⟩) (by first | exact hB _ _ | exact hB0 _ _ | exact hBt _ _ | exact ⟨by omega, by omega⟩) (fun h19 => ?_) (fun h19 => ?_)
        · skip
          refine pe_aload_n d_P_size_24 rfl ?_
          refine pe_getr f_P_30 d_P_size_25 rfl rfl ?_
          refine pe_iload_n d_P_size_28 rfl ?_
          refine pe_putiT f_P_74 g_2_6 d_P_size_29 rfl rfl 6 rfl hB (by first | exact hB _ _ | exact hB0 _ _ | exact hBt _ _ | exact ⟨by omega, by omega⟩) (fun σ29 hB e29 o29 f29 => ?_)
          try have u29_0 : σ29 2 5 = σ 2 5 := by first | exact o29 5 (by decide) | exact congrFun (f29 2 (by decide)) 5
          try have u29_1 : σ29 2 6 = σ 2 6 := by first | exact o29 6 (by decide) | exact congrFun (f29 2 (by decide)) 6
          try have u29_2 : σ29 2 7 = σ 2 7 := by first | exact o29 7 (by decide) | exact congrFun (f29 2 (by decide)) 7
          try have u29_3 : σ29 2 8 = σ 2 8 := by first | exact o29 8 (by decide) | exact congrFun (f29 2 (by decide)) 8
          try have u29_4 : σ29 3 1 = σ 3 1 := by first | exact o29 1 (by decide) | exact congrFun (f29 3 (by decide)) 1
          try have u29_5 : σ29 17 2 = σ 17 2 := by first | exact o29 2 (by decide) | exact congrFun (f29 17 (by decide)) 2
          try have u29_6 : σ29 17 3 = σ 17 3 := by first | exact o29 3 (by decide) | exact congrFun (f29 17 (by decide)) 3
          try have u29_7 : σ29 17 4 = σ 17 4 := by first | exact o29 4 (by decide) | exact congrFun (f29 17 (by decide)) 4
          try have u29_8 : σ29 18 2 = σ 18 2 := by first | exact o29 2 (by decide) | exact congrFun (f29 18 (by decide)) 2
          try have u29_9 : σ29 18 3 = σ 18 3 := by first | exact o29 3 (by decide) | exact congrFun (f29 18 (by decide)) 3
          try have u29_10 : σ29 21 1 = σ 21 1 := by first | exact o29 1 (by decide) | exact congrFun (f29 21 (by decide)) 1
          try have u29_11 : σ29 21 3 = σ 21 3 := by first | exact o29 3 (by decide) | exact congrFun (f29 21 (by decide)) 3
          try have u29_12 : σ29 23 2 = σ 23 2 := by first | exact o29 2 (by decide) | exact congrFun (f29 23 (by decide)) 2
          try have u29_13 : σ29 24 1 = σ 24 1 := by first | exact o29 1 (by decide) | exact congrFun (f29 24 (by decide)) 1
          try have u29_14 : σ29 24 2 = σ 24 2 := by first | exact o29 2 (by decide) | exact congrFun (f29 24 (by decide)) 2
          try have u29_15 : σ29 25 2 = σ 25 2 := by first | exact o29 2 (by decide) | exact congrFun (f29 25 (by decide)) 2
          try have u29_16 : σ29 25 3 = σ 25 3 := by first | exact o29 3 (by decide) | exact congrFun (f29 25 (by decide)) 3
          refine pe_aload_n d_P_size_32 rfl ?_
          refine pe_getr f_P_30 d_P_size_33 rfl rfl ?_
          refine pe_iconst d_P_size_36 ?_
          refine pe_putzT f_P_77 g_2_11 d_P_size_37 rfl rfl (by first | exact Or.inl rfl | exact Or.inr rfl | omega) 11 rfl hB (fun σ37 hB e37 o37 f37 => ?_)
          try have u37_0 : σ37 2 5 = σ29 2 5 := by first | exact o37 5 (by decide) | exact congrFun (f37 2 (by decide)) 5
          try have u37_1 : σ37 2 6 = σ29 2 6 := by first | exact o37 6 (by decide) | exact congrFun (f37 2 (by decide)) 6
          try have u37_2 : σ37 2 7 = σ29 2 7 := by first | exact o37 7 (by decide) | exact congrFun (f37 2 (by decide)) 7
          try have u37_3 : σ37 2 8 = σ29 2 8 := by first | exact o37 8 (by decide) | exact congrFun (f37 2 (by decide)) 8
          try have u37_4 : σ37 3 1 = σ29 3 1 := by first | exact o37 1 (by decide) | exact congrFun (f37 3 (by decide)) 1
          try have u37_5 : σ37 17 2 = σ29 17 2 := by first | exact o37 2 (by decide) | exact congrFun (f37 17 (by decide)) 2
          try have u37_6 : σ37 17 3 = σ29 17 3 := by first | exact o37 3 (by decide) | exact congrFun (f37 17 (by decide)) 3
          try have u37_7 : σ37 17 4 = σ29 17 4 := by first | exact o37 4 (by decide) | exact congrFun (f37 17 (by decide)) 4
          try have u37_8 : σ37 18 2 = σ29 18 2 := by first | exact o37 2 (by decide) | exact congrFun (f37 18 (by decide)) 2
          try have u37_9 : σ37 18 3 = σ29 18 3 := by first | exact o37 3 (by decide) | exact congrFun (f37 18 (by decide)) 3
          try have u37_10 : σ37 21 1 = σ29 21 1 := by first | exact o37 1 (by decide) | exact congrFun (f37 21 (by decide)) 1
          try have u37_11 : σ37 21 3 = σ29 21 3 := by first | exact o37 3 (by decide) | exact congrFun (f37 21 (by decide)) 3
          try have u37_12 : σ37 23 2 = σ29 23 2 := by first | exact o37 2 (by decide) | exact congrFun (f37 23 (by decide)) 2
          try have u37_13 : σ37 24 1 = σ29 24 1 := by first | exact o37 1 (by decide) | exact congrFun (f37 24 (by decide)) 1
          try have u37_14 : σ37 24 2 = σ29 24 2 := by first | exact o37 2 (by decide) | exact congrFun (f37 24 (by decide)) 2
          try have u37_15 : σ37 25 2 = σ29 25 2 := by first | exact o37 2 (by decide) | exact congrFun (f37 25 (by decide)) 2
          try have u37_16 : σ37 25 3 = σ29 25 3 := by first | exact o37 3 (by decide) | exact congrFun (f37 25 (by decide)) 3
          refine pe_aload_n d_P_size_40 rfl ?_
          refine pe_getr f_P_39 d_P_size_41 rfl rfl ?_
          refine pe_getr f_P_81 d_P_size_44 rfl rfl ?_
          refine pe_iload_n d_P_size_47 rfl ?_
          refine pe_iload_n d_P_size_48 rfl ?_
          refine pe_v2v d_P_size_49 c_P_85 i_G_resize s_G_resize rfl rfl (t_G_resize_18 hB (by omega) (by omega) (by omega)) (fun σ49 hz49 => ?_)
          obtain ⟨hB, f49, x49⟩ := hz49
          try have u49_0 : σ49 2 5 = σ37 2 5 := by first | exact o49 5 (by decide) | exact congrFun (f49 2 (by decide)) 5
          try have u49_1 : σ49 2 6 = σ37 2 6 := by first | exact o49 6 (by decide) | exact congrFun (f49 2 (by decide)) 6
          try have u49_2 : σ49 2 7 = σ37 2 7 := by first | exact o49 7 (by decide) | exact congrFun (f49 2 (by decide)) 7
          try have u49_3 : σ49 2 8 = σ37 2 8 := by first | exact o49 8 (by decide) | exact congrFun (f49 2 (by decide)) 8
          try have u49_4 : σ49 3 1 = σ37 3 1 := by first | exact o49 1 (by decide) | exact congrFun (f49 3 (by decide)) 1
          try have u49_5 : σ49 17 2 = σ37 17 2 := by first | exact o49 2 (by decide) | exact congrFun (f49 17 (by decide)) 2
          try have u49_6 : σ49 17 3 = σ37 17 3 := by first | exact o49 3 (by decide) | exact congrFun (f49 17 (by decide)) 3
          try have u49_7 : σ49 17 4 = σ37 17 4 := by first | exact o49 4 (by decide) | exact congrFun (f49 17 (by decide)) 4
          try have u49_8 : σ49 18 2 = σ37 18 2 := by first | exact o49 2 (by decide) | exact congrFun (f49 18 (by decide)) 2
          try have u49_9 : σ49 18 3 = σ37 18 3 := by first | exact o49 3 (by decide) | exact congrFun (f49 18 (by decide)) 3
          try have u49_10 : σ49 21 1 = σ37 21 1 := by first | exact o49 1 (by decide) | exact congrFun (f49 21 (by decide)) 1
          try have u49_11 : σ49 21 3 = σ37 21 3 := by first | exact o49 3 (by decide) | exact congrFun (f49 21 (by decide)) 3
          try have u49_12 : σ49 23 2 = σ37 23 2 := by first | exact o49 2 (by decide) | exact congrFun (f49 23 (by decide)) 2
          try have u49_13 : σ49 24 1 = σ37 24 1 := by first | exact o49 1 (by decide) | exact congrFun (f49 24 (by decide)) 1
          try have u49_14 : σ49 24 2 = σ37 24 2 := by first | exact o49 2 (by decide) | exact congrFun (f49 24 (by decide)) 2
          try have u49_15 : σ49 25 2 = σ37 25 2 := by first | exact o49 2 (by decide) | exact congrFun (f49 25 (by decide)) 2
          try have u49_16 : σ49 25 3 = σ37 25 3 := by first | exact o49 3 (by decide) | exact congrFun (f49 25 (by decide)) 3
          refine pe_aload_n d_P_size_52 rfl ?_
          refine pe_getr f_P_46 d_P_size_53 rfl rfl ?_
          refine pe_getr f_P_90 d_P_size_56 rfl rfl ?_
          refine pe_iload_n d_P_size_59 rfl ?_
          refine pe_iload_n d_P_size_60 rfl ?_
          refine pe_v2v d_P_size_61 c_P_94 i_Z_resize s_Z_resize rfl rfl (t_Z_resize hB (by omega) (by omega) (by omega) (by omega)) (fun σ61 hz61 => ?_)
          obtain ⟨hB, f61, x61⟩ := hz61
          try have u61_0 : σ61 2 5 = σ49 2 5 := by first | exact o61 5 (by decide) | exact congrFun (f61 2 (by decide)) 5
          try have u61_1 : σ61 2 6 = σ49 2 6 := by first | exact o61 6 (by decide) | exact congrFun (f61 2 (by decide)) 6
          try have u61_2 : σ61 2 7 = σ49 2 7 := by first | exact o61 7 (by decide) | exact congrFun (f61 2 (by decide)) 7
          try have u61_3 : σ61 2 8 = σ49 2 8 := by first | exact o61 8 (by decide) | exact congrFun (f61 2 (by decide)) 8
          try have u61_4 : σ61 3 1 = σ49 3 1 := by first | exact o61 1 (by decide) | exact congrFun (f61 3 (by decide)) 1
          try have u61_5 : σ61 17 2 = σ49 17 2 := by first | exact o61 2 (by decide) | exact congrFun (f61 17 (by decide)) 2
          try have u61_6 : σ61 17 3 = σ49 17 3 := by first | exact o61 3 (by decide) | exact congrFun (f61 17 (by decide)) 3
          try have u61_7 : σ61 17 4 = σ49 17 4 := by first | exact o61 4 (by decide) | exact congrFun (f61 17 (by decide)) 4
          try have u61_8 : σ61 18 2 = σ49 18 2 := by first | exact o61 2 (by decide) | exact congrFun (f61 18 (by decide)) 2
          try have u61_9 : σ61 18 3 = σ49 18 3 := by first | exact o61 3 (by decide) | exact congrFun (f61 18 (by decide)) 3
          try have u61_10 : σ61 21 1 = σ49 21 1 := by first | exact o61 1 (by decide) | exact congrFun (f61 21 (by decide)) 1
          try have u61_11 : σ61 21 3 = σ49 21 3 := by first | exact o61 3 (by decide) | exact congrFun (f61 21 (by decide)) 3
          try have u61_12 : σ61 23 2 = σ49 23 2 := by first | exact o61 2 (by decide) | exact congrFun (f61 23 (by decide)) 2
          try have u61_13 : σ61 24 1 = σ49 24 1 := by first | exact o61 1 (by decide) | exact congrFun (f61 24 (by decide)) 1
          try have u61_14 : σ61 24 2 = σ49 24 2 := by first | exact o61 2 (by decide) | exact congrFun (f61 24 (by decide)) 2
          try have u61_15 : σ61 25 2 = σ49 25 2 := by first | exact o61 2 (by decide) | exact congrFun (f61 25 (by decide)) 2
          try have u61_16 : σ61 25 3 = σ49 25 3 := by first | exact o61 3 (by decide) | exact congrFun (f61 25 (by decide)) 3
          refine pe_iconst d_P_size_64 ?_
          refine pe_rz d_P_size_65 (by first | exact Or.inl rfl | exact Or.inr rfl | omega) ?_
          first | exact ⟨hB, (fun b hb => (f61 b (by simp at hb ⊢; try omega)).trans ((f49 b (by simp at hb ⊢; try omega)).trans ((f37 b (by simp at hb ⊢; try omega)).trans ((f29 b (by simp at hb ⊢; try omega)).trans (rfl))))), hC0, by omega, by omega⟩ | exact ⟨hB, (fun b hb => (f61 b (by simp at hb ⊢; try omega)).trans ((f49 b (by simp at hb ⊢; try omega)).trans ((f37 b (by simp at hb ⊢; try omega)).trans ((f29 b (by simp at hb ⊢; try omega)).trans (rfl))))), ⟨⟨pe_HI_to hh ((f61 5 (by decide)).trans ((f49 5 (by decide)).trans ((f37 5 (by decide)).trans ((f29 5 (by decide)).trans (rfl))))) ((f61 6 (by decide)).trans ((f49 6 (by decide)).trans ((f37 6 (by decide)).trans ((f29 6 (by decide)).trans (rfl))))) ((f61 7 (by decide)).trans ((f49 7 (by decide)).trans ((f37 7 (by decide)).trans ((f29 7 (by decide)).trans (rfl))))) ((f61 8 (by decide)).trans ((f49 8 (by decide)).trans ((f37 8 (by decide)).trans ((f29 8 (by decide)).trans (rfl))))) ((f61 9 (by decide)).trans ((f49 9 (by decide)).trans ((f37 9 (by decide)).trans ((f29 9 (by decide)).trans (rfl))))) (congrFun ((f61 3 (by decide)).trans ((f49 3 (by decide)).trans ((f37 3 (by decide)).trans ((f29 3 (by decide)).trans (rfl))))) 1), pe_LI_to hL ((f61 12 (by decide)).trans ((f49 12 (by decide)).trans ((f37 12 (by decide)).trans ((f29 12 (by decide)).trans (rfl))))) ((f61 13 (by decide)).trans ((f49 13 (by decide)).trans ((f37 13 (by decide)).trans ((f29 13 (by decide)).trans (rfl))))) ((f61 14 (by decide)).trans ((f49 14 (by decide)).trans ((f37 14 (by decide)).trans ((f29 14 (by decide)).trans (rfl))))), by omega, by omega, by omega, by omega⟩, by omega, by omega, by omega, by omega, by omega, by omega, by omega, by omega⟩, by omega, by omega⟩
        · skip
          refine pe_iconst d_P_size_22 ?_
          refine pe_rz d_P_size_23 (by first | exact Or.inl rfl | exact Or.inr rfl | omega) ?_
          first | exact ⟨hB, (fun b hb => rfl), hC0, by omega, by omega⟩ | exact ⟨hB, (fun b hb => rfl), ⟨⟨pe_HI_to hh (rfl) (rfl) (rfl) (rfl) (rfl) (congrFun (rfl) 1), pe_LI_to hL (rfl) (rfl) (rfl), by omega, by omega, by omega, by omega⟩, by omega, by omega, by omega, by omega, by omega, by omega, by omega, by omega⟩, by omega, by omega⟩
theorem t_P_draw {σ : pe_H} (hss : pe_SS) (hB : pe_B σ) (hC : pe_CI σ) : pe_M m_P_draw [pe_r 0] σ (pe_qi (fun _ σ' => pe_B σ' ∧ (∀ b, b ∉ [0, 1, 2, 3, 4, 5, 6, 7, 8, 9, 10, 11, 12, 13, 14, 15, 16, 17, 18, 19, 20, 21, 22, 23, 24, 25, 26, 27, 28] → σ' b = σ b) ∧ pe_CI σ')) := by
  refine pe_in0 (lv := [some (pe_r 0), none]) ?_
  have hB0 := hB
  have hC0 := hC
  obtain ⟨hE, hd18, hd25, htt, hqq, htop, hcr, hcc, hsb⟩ := hC
  have hE0 := hE
  obtain ⟨hh, hL, hcu, hma, hcl, hco⟩ := hE
  have hlen := pe_ch_len hh.2.2
  have J35 : ∀ x : Int × pe_H, (pe_B x.2 ∧ (∀ b, b ∉ [2, 12, 13, 14, 17, 19, 20, 21, 22, 23, 24, 26, 27, 28] → x.2 b = σ b) ∧ pe_LI (x.2 12) (x.2 13) (x.2 14) ∧ (0 ≤ x.1 ∧ x.1 ≤ 8) ∧ ((0 ≤ x.2 24 1 ∧ x.2 24 1 ≤ 8 ∧ 0 ≤ x.2 24 2 ∧ x.2 24 2 ≤ 24) ∧ (0 ≤ x.2 23 2 ∧ x.2 23 2 ≤ 2048) ∧ (-10 ≤ x.2 17 2 ∧ x.2 17 2 ≤ 500) ∧ (0 ≤ x.2 17 3 ∧ x.2 17 3 ≤ 8) ∧ (0 ≤ x.2 17 4 ∧ x.2 17 4 ≤ 24) ∧ (x.2 21 1 = 0 ∧ 0 ≤ x.2 21 3 ∧ x.2 21 3 ≤ 16)) ∧ (x.2 2 5 = σ 2 5 ∧ x.2 2 6 = σ 2 6 ∧ x.2 2 7 = σ 2 7 ∧ x.2 2 8 = σ 2 8)) → pe_G m_P_draw 35 [some (pe_r 0), some (pe_i x.1)] [] x.2 (pe_qi (fun _ σ' => pe_B σ' ∧ (∀ b, b ∉ [0, 1, 2, 3, 4, 5, 6, 7, 8, 9, 10, 11, 12, 13, 14, 15, 16, 17, 18, 19, 20, 21, 22, 23, 24, 25, 26, 27, 28] → σ' b = σ b) ∧ pe_CI σ')) := by
    refine pe_loop (fun x : Int × pe_H => (100 - x.1).toNat) _ _ ?_
    intro x hI ih
    obtain ⟨i, τ⟩ := x
    dsimp only at hI ⊢
    obtain ⟨hB, hfr, hX⟩ := hI
    have v_3_1 : τ 3 1 = σ 3 1 := congrFun (hfr 3 (by decide)) 1
    have v_18_2 : τ 18 2 = σ 18 2 := congrFun (hfr 18 (by decide)) 2
    have v_18_3 : τ 18 3 = σ 18 3 := congrFun (hfr 18 (by decide)) 3
    have v_25_2 : τ 25 2 = σ 25 2 := congrFun (hfr 25 (by decide)) 2
    have v_25_3 : τ 25 3 = σ 25 3 := congrFun (hfr 25 (by decide)) 3
    obtain ⟨hLt, hX⟩ := hX
    have hBt := hB
    refine pe_iload_n d_P_draw_35 rfl ?_
    refine pe_aload_n d_P_draw_36 rfl ?_
    refine pe_getr f_P_39 d_P_draw_37 rfl rfl ?_
    refine pe_getr f_P_81 d_P_draw_40 rfl rfl ?_
    refine pe_geti f_P_105 d_P_draw_43 rfl rfl 3 rfl ?_
    refine pe_icmp_ge (t := 70) d_P_draw_46 (by first | exact hB _ _ | exact hB0 _ _ | exact hBt _ _ | exact ⟨by omega, by omega⟩) (by first | exact hB _ _ | exact hB0 _ _ | exact hBt _ _ | exact ⟨by omega, by omega⟩) (fun h46 => ?_) (fun h46 => ?_)
    · skip
      refine pe_aload_n d_P_draw_70 rfl ?_
      refine pe_getr f_P_46 d_P_draw_71 rfl rfl ?_
      refine pe_aload_n d_P_draw_74 rfl ?_
      refine pe_getr f_P_39 d_P_draw_75 rfl rfl ?_
      refine pe_geti f_P_112 d_P_draw_78 rfl rfl 3 rfl ?_
      refine pe_aload_n d_P_draw_81 rfl ?_
      refine pe_getr f_P_39 d_P_draw_82 rfl rfl ?_
      refine pe_geti f_P_115 d_P_draw_85 rfl rfl 4 rfl ?_
      refine pe_v2v d_P_draw_88 c_P_118 i_Q_makePlaceRight s_Q_makePlaceRight rfl rfl (t_Q_makePlaceRight hB (by omega) (by omega) (by omega) (by omega) (by omega)) (fun σ88 hz88 => ?_)
      obtain ⟨hB, f88, x88⟩ := hz88
      try have u88_0 : σ88 2 5 = τ 2 5 := by first | exact o88 5 (by decide) | exact congrFun (f88 2 (by decide)) 5
      try have u88_1 : σ88 2 6 = τ 2 6 := by first | exact o88 6 (by decide) | exact congrFun (f88 2 (by decide)) 6
      try have u88_2 : σ88 2 7 = τ 2 7 := by first | exact o88 7 (by decide) | exact congrFun (f88 2 (by decide)) 7
      try have u88_3 : σ88 2 8 = τ 2 8 := by first | exact o88 8 (by decide) | exact congrFun (f88 2 (by decide)) 8
      try have u88_4 : σ88 3 1 = τ 3 1 := by first | exact o88 1 (by decide) | exact congrFun (f88 3 (by decide)) 1
      try have u88_5 : σ88 17 2 = τ 17 2 := by first | exact o88 2 (by decide) | exact congrFun (f88 17 (by decide)) 2
      try have u88_6 : σ88 17 3 = τ 17 3 := by first | exact o88 3 (by decide) | exact congrFun (f88 17 (by decide)) 3
      try have u88_7 : σ88 17 4 = τ 17 4 := by first | exact o88 4 (by decide) | exact congrFun (f88 17 (by decide)) 4
      try have u88_8 : σ88 18 2 = τ 18 2 := by first | exact o88 2 (by decide) | exact congrFun (f88 18 (by decide)) 2
      try have u88_9 : σ88 18 3 = τ 18 3 := by first | exact o88 3 (by decide) | exact congrFun (f88 18 (by decide)) 3
      try have u88_10 : σ88 21 1 = τ 21 1 := by first | exact o88 1 (by decide) | exact congrFun (f88 21 (by decide)) 1
      try have u88_11 : σ88 21 3 = τ 21 3 := by first | exact o88 3 (by decide) | exact congrFun (f88 21 (by decide)) 3
      try have u88_12 : σ88 23 2 = τ 23 2 := by first | exact o88 2 (by decide) | exact congrFun (f88 23 (by decide)) 2
      try have u88_13 : σ88 24 1 = τ 24 1 := by first | exact o88 1 (by decide) | exact congrFun (f88 24 (by decide)) 1
      try have u88_14 : σ88 24 2 = τ 24 2 := by first | exact o88 2 (by decide) | exact congrFun (f88 24 (by decide)) 2
      try have u88_15 : σ88 25 2 = τ 25 2 := by first | exact o88 2 (by decide) | exact congrFun (f88 25 (by decide)) 2
      try have u88_16 : σ88 25 3 = τ 25 3 := by first | exact o88 3 (by decide) | exact congrFun (f88 25 (by decide)) 3
      refine pe_aload_n d_P_draw_91 rfl ?_
      refine pe_getr f_P_46 d_P_draw_92 rfl rfl ?_
      refine pe_geti f_P_121 d_P_draw_95 rfl rfl 2 rfl ?_
      refine pe_ri d_P_draw_98 ?_
      exact ⟨hB, (fun b hb => (f88 b (by simp at hb ⊢; try omega)).trans (hfr b (by simp at hb ⊢; try omega))), ⟨⟨pe_HI_to hh ((f88 5 (by decide)).trans (hfr 5 (by decide))) ((f88 6 (by decide)).trans (hfr 6 (by decide))) ((f88 7 (by decide)).trans (hfr 7 (by decide))) ((f88 8 (by decide)).trans (hfr 8 (by decide))) ((f88 9 (by decide)).trans (hfr 9 (by decide))) (congrFun ((f88 3 (by decide)).trans (hfr 3 (by decide))) 1), pe_LI_to hLt (f88 12 (by decide)) (f88 13 (by decide)) (f88 14 (by decide)), by omega, by omega, by omega, by omega⟩, by omega, by omega, by omega, by omega, by omega, by omega, by omega, by omega⟩⟩
    · skip
      refine pe_aload_n d_P_draw_49 rfl ?_
      refine pe_getr f_P_46 d_P_draw_50 rfl rfl ?_
      refine pe_aload_n d_P_draw_53 rfl ?_
      refine pe_getr f_P_39 d_P_draw_54 rfl rfl ?_
      refine pe_getr f_P_81 d_P_draw_57 rfl rfl ?_
      refine pe_iload_n d_P_draw_60 rfl ?_
      refine pe_v2v d_P_draw_61 c_P_108 i_Q_paintRow s_Q_paintRow rfl rfl (t_Q_paintRow hB (by omega) (by omega) (by omega) (by omega) (by omega)) (fun σ61 hz61 => ?_)
      obtain ⟨hB, f61, x61⟩ := hz61
      try have u61_0 : σ61 2 5 = τ 2 5 := by first | exact o61 5 (by decide) | exact congrFun (f61 2 (by decide)) 5
      try have u61_1 : σ61 2 6 = τ 2 6 := by first | exact o61 6 (by decide) | exact congrFun (f61 2 (by decide)) 6
      try have u61_2 : σ61 2 7 = τ 2 7 := by first | exact o61 7 (by decide) | exact congrFun (f61 2 (by decide)) 7
      try have u61_3 : σ61 2 8 = τ 2 8 := by first | exact o61 8 (by decide) | exact congrFun (f61 2 (by decide)) 8
      try have u61_4 : σ61 3 1 = τ 3 1 := by first | exact o61 1 (by decide) | exact congrFun (f61 3 (by decide)) 1
      try have u61_5 : σ61 17 2 = τ 17 2 := by first | exact o61 2 (by decide) | exact congrFun (f61 17 (by decide)) 2
      try have u61_6 : σ61 17 3 = τ 17 3 := by first | exact o61 3 (by decide) | exact congrFun (f61 17 (by decide)) 3
      try have u61_7 : σ61 17 4 = τ 17 4 := by first | exact o61 4 (by decide) | exact congrFun (f61 17 (by decide)) 4
      try have u61_8 : σ61 18 2 = τ 18 2 := by first | exact o61 2 (by decide) | exact congrFun (f61 18 (by decide)) 2
      try have u61_9 : σ61 18 3 = τ 18 3 := by first | exact o61 3 (by decide) | exact congrFun (f61 18 (by decide)) 3
      try have u61_10 : σ61 21 1 = τ 21 1 := by first | exact o61 1 (by decide) | exact congrFun (f61 21 (by decide)) 1
      try have u61_11 : σ61 21 3 = τ 21 3 := by first | exact o61 3 (by decide) | exact congrFun (f61 21 (by decide)) 3
      try have u61_12 : σ61 23 2 = τ 23 2 := by first | exact o61 2 (by decide) | exact congrFun (f61 23 (by decide)) 2
      try have u61_13 : σ61 24 1 = τ 24 1 := by first | exact o61 1 (by decide) | exact congrFun (f61 24 (by decide)) 1
      try have u61_14 : σ61 24 2 = τ 24 2 := by first | exact o61 2 (by decide) | exact congrFun (f61 24 (by decide)) 2
      try have u61_15 : σ61 25 2 = τ 25 2 := by first | exact o61 2 (by decide) | exact congrFun (f61 25 (by decide)) 2
      try have u61_16 : σ61 25 3 = τ 25 3 := by first | exact o61 3 (by decide) | exact congrFun (f61 25 (by decide)) 3
      refine pe_iinc d_P_draw_64 rfl ?_
      refine pe_goto (t := 35) d_P_draw_67 ?_
      exact ih (_, _) ⟨hB, (fun b hb => (f61 b (by simp at hb ⊢; try omega)).trans (hfr b (by simp at hb ⊢; try omega))), pe_LI_to hLt (f61 12 (by decide)) (f61 13 (by decide)) (f61 14 (by decide)), by (try dsimp only); omega⟩ (by (try dsimp only); omega)
  refine pe_aload_n d_P_draw_0 rfl ?_
  refine pe_getr f_P_39 d_P_draw_1 rfl rfl ?_
  refine pe_aload_n d_P_draw_4 rfl ?_
  refine pe_getr f_P_30 d_P_draw_5 rfl rfl ?_
  refine pe_v1v d_P_draw_8 c_P_97 i_S_compose s_S_compose rfl rfl (t_S_compose hss hB hE0 (by omega) (by omega) (by omega)) (fun σ8 hz8 => ?_)
  obtain ⟨hB, f8, x8⟩ := hz8
  try have u8_0 : σ8 2 5 = σ 2 5 := by first | exact o8 5 (by decide) | exact congrFun (f8 2 (by decide)) 5
  try have u8_1 : σ8 2 6 = σ 2 6 := by first | exact o8 6 (by decide) | exact congrFun (f8 2 (by decide)) 6
  try have u8_2 : σ8 2 7 = σ 2 7 := by first | exact o8 7 (by decide) | exact congrFun (f8 2 (by decide)) 7
  try have u8_3 : σ8 2 8 = σ 2 8 := by first | exact o8 8 (by decide) | exact congrFun (f8 2 (by decide)) 8
  try have u8_4 : σ8 3 1 = σ 3 1 := by first | exact o8 1 (by decide) | exact congrFun (f8 3 (by decide)) 1
  try have u8_5 : σ8 17 2 = σ 17 2 := by first | exact o8 2 (by decide) | exact congrFun (f8 17 (by decide)) 2
  try have u8_6 : σ8 17 3 = σ 17 3 := by first | exact o8 3 (by decide) | exact congrFun (f8 17 (by decide)) 3
  try have u8_7 : σ8 17 4 = σ 17 4 := by first | exact o8 4 (by decide) | exact congrFun (f8 17 (by decide)) 4
  try have u8_8 : σ8 18 2 = σ 18 2 := by first | exact o8 2 (by decide) | exact congrFun (f8 18 (by decide)) 2
  try have u8_9 : σ8 18 3 = σ 18 3 := by first | exact o8 3 (by decide) | exact congrFun (f8 18 (by decide)) 3
  try have u8_10 : σ8 21 1 = σ 21 1 := by first | exact o8 1 (by decide) | exact congrFun (f8 21 (by decide)) 1
  try have u8_11 : σ8 21 3 = σ 21 3 := by first | exact o8 3 (by decide) | exact congrFun (f8 21 (by decide)) 3
  try have u8_12 : σ8 23 2 = σ 23 2 := by first | exact o8 2 (by decide) | exact congrFun (f8 23 (by decide)) 2
  try have u8_13 : σ8 24 1 = σ 24 1 := by first | exact o8 1 (by decide) | exact congrFun (f8 24 (by decide)) 1
  try have u8_14 : σ8 24 2 = σ 24 2 := by first | exact o8 2 (by decide) | exact congrFun (f8 24 (by decide)) 2
  try have u8_15 : σ8 25 2 = σ 25 2 := by first | exact o8 2 (by decide) | exact congrFun (f8 25 (by decide)) 2
  try have u8_16 : σ8 25 3 = σ 25 3 := by first | exact o8 3 (by decide) | exact congrFun (f8 25 (by decide)) 3
  obtain ⟨x8a, x8b, x8c, x8d, x8e⟩ := x8
  have x8 := And.intro x8a trivial
  refine pe_aload_n d_P_draw_11 rfl ?_
  refine pe_getr f_P_46 d_P_draw_12 rfl rfl ?_
  refine pe_aload_n d_P_draw_15 rfl ?_
  refine pe_getr f_P_30 d_P_draw_16 rfl rfl ?_
  refine pe_geti f_P_77 d_P_draw_19 rfl rfl 11 rfl ?_
  refine pe_v1v d_P_draw_22 c_P_101 i_Q_begin s_Q_begin rfl rfl (t_Q_begin hB (by omega) (by omega) (by omega) (by first | exact hB _ _ | exact hB0 _ _ | exact hBt _ _ | exact ⟨by omega, by omega⟩)) (fun σ22 hz22 => ?_)
  obtain ⟨hB, f22, x22⟩ := hz22
  try have u22_0 : σ22 2 5 = σ8 2 5 := by first | exact o22 5 (by decide) | exact congrFun (f22 2 (by decide)) 5
  try have u22_1 : σ22 2 6 = σ8 2 6 := by first | exact o22 6 (by decide) | exact congrFun (f22 2 (by decide)) 6
  try have u22_2 : σ22 2 7 = σ8 2 7 := by first | exact o22 7 (by decide) | exact congrFun (f22 2 (by decide)) 7
  try have u22_3 : σ22 2 8 = σ8 2 8 := by first | exact o22 8 (by decide) | exact congrFun (f22 2 (by decide)) 8
  try have u22_4 : σ22 3 1 = σ8 3 1 := by first | exact o22 1 (by decide) | exact congrFun (f22 3 (by decide)) 1
  try have u22_5 : σ22 17 2 = σ8 17 2 := by first | exact o22 2 (by decide) | exact congrFun (f22 17 (by decide)) 2
  try have u22_6 : σ22 17 3 = σ8 17 3 := by first | exact o22 3 (by decide) | exact congrFun (f22 17 (by decide)) 3
  try have u22_7 : σ22 17 4 = σ8 17 4 := by first | exact o22 4 (by decide) | exact congrFun (f22 17 (by decide)) 4
  try have u22_8 : σ22 18 2 = σ8 18 2 := by first | exact o22 2 (by decide) | exact congrFun (f22 18 (by decide)) 2
  try have u22_9 : σ22 18 3 = σ8 18 3 := by first | exact o22 3 (by decide) | exact congrFun (f22 18 (by decide)) 3
  try have u22_10 : σ22 21 1 = σ8 21 1 := by first | exact o22 1 (by decide) | exact congrFun (f22 21 (by decide)) 1
  try have u22_11 : σ22 21 3 = σ8 21 3 := by first | exact o22 3 (by decide) | exact congrFun (f22 21 (by decide)) 3
  try have u22_12 : σ22 23 2 = σ8 23 2 := by first | exact o22 2 (by decide) | exact congrFun (f22 23 (by decide)) 2
  try have u22_13 : σ22 24 1 = σ8 24 1 := by first | exact o22 1 (by decide) | exact congrFun (f22 24 (by decide)) 1
  try have u22_14 : σ22 24 2 = σ8 24 2 := by first | exact o22 2 (by decide) | exact congrFun (f22 24 (by decide)) 2
  try have u22_15 : σ22 25 2 = σ8 25 2 := by first | exact o22 2 (by decide) | exact congrFun (f22 25 (by decide)) 2
  try have u22_16 : σ22 25 3 = σ8 25 3 := by first | exact o22 3 (by decide) | exact congrFun (f22 25 (by decide)) 3
  refine pe_aload_n d_P_draw_25 rfl ?_
  refine pe_getr f_P_30 d_P_draw_26 rfl rfl ?_
  refine pe_iconst d_P_draw_29 ?_
  refine pe_putzT f_P_77 g_2_11 d_P_draw_30 rfl rfl (by first | exact Or.inl rfl | exact Or.inr rfl | omega) 11 rfl hB (fun σ30 hB e30 o30 f30 => ?_)
  try have u30_0 : σ30 2 5 = σ22 2 5 := by first | exact o30 5 (by decide) | exact congrFun (f30 2 (by decide)) 5
  try have u30_1 : σ30 2 6 = σ22 2 6 := by first | exact o30 6 (by decide) | exact congrFun (f30 2 (by decide)) 6
  try have u30_2 : σ30 2 7 = σ22 2 7 := by first | exact o30 7 (by decide) | exact congrFun (f30 2 (by decide)) 7
  try have u30_3 : σ30 2 8 = σ22 2 8 := by first | exact o30 8 (by decide) | exact congrFun (f30 2 (by decide)) 8
  try have u30_4 : σ30 3 1 = σ22 3 1 := by first | exact o30 1 (by decide) | exact congrFun (f30 3 (by decide)) 1
  try have u30_5 : σ30 17 2 = σ22 17 2 := by first | exact o30 2 (by decide) | exact congrFun (f30 17 (by decide)) 2
  try have u30_6 : σ30 17 3 = σ22 17 3 := by first | exact o30 3 (by decide) | exact congrFun (f30 17 (by decide)) 3
  try have u30_7 : σ30 17 4 = σ22 17 4 := by first | exact o30 4 (by decide) | exact congrFun (f30 17 (by decide)) 4
  try have u30_8 : σ30 18 2 = σ22 18 2 := by first | exact o30 2 (by decide) | exact congrFun (f30 18 (by decide)) 2
  try have u30_9 : σ30 18 3 = σ22 18 3 := by first | exact o30 3 (by decide) | exact congrFun (f30 18 (by decide)) 3
  try have u30_10 : σ30 21 1 = σ22 21 1 := by first | exact o30 1 (by decide) | exact congrFun (f30 21 (by decide)) 1
  try have u30_11 : σ30 21 3 = σ22 21 3 := by first | exact o30 3 (by decide) | exact congrFun (f30 21 (by decide)) 3
  try have u30_12 : σ30 23 2 = σ22 23 2 := by first | exact o30 2 (by decide) | exact congrFun (f30 23 (by decide)) 2
  try have u30_13 : σ30 24 1 = σ22 24 1 := by first | exact o30 1 (by decide) | exact congrFun (f30 24 (by decide)) 1
  try have u30_14 : σ30 24 2 = σ22 24 2 := by first | exact o30 2 (by decide) | exact congrFun (f30 24 (by decide)) 2
  try have u30_15 : σ30 25 2 = σ22 25 2 := by first | exact o30 2 (by decide) | exact congrFun (f30 25 (by decide)) 2
  try have u30_16 : σ30 25 3 = σ22 25 3 := by first | exact o30 3 (by decide) | exact congrFun (f30 25 (by decide)) 3
  refine pe_iconst d_P_draw_33 ?_
  refine pe_istore_n d_P_draw_34 ?_
  exact J35 (_, _) ⟨hB, (fun b hb => (f30 b (by simp at hb ⊢; try omega)).trans ((f22 b (by simp at hb ⊢; try omega)).trans ((f8 b (by simp at hb ⊢; try omega)).trans (rfl)))), pe_LI_to x8.1 ((f30 12 (by decide)).trans ((f22 12 (by decide)).trans (rfl))) ((f30 13 (by decide)).trans ((f22 13 (by decide)).trans (rfl))) ((f30 14 (by decide)).trans ((f22 14 (by decide)).trans (rfl))), by (try dsimp only); omega⟩
