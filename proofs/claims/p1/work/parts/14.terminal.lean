theorem t_Z_endWriting {σ : pe_H} (hB : pe_B σ) : pe_M m_Z_endWriting [pe_r 24] σ (pe_qv (fun σ' => pe_B σ' ∧ (∀ b, b ∉ [24] → σ' b = σ b) ∧ σ' 24 1 = σ 24 1 ∧ σ' 24 2 = σ 24 2)) := by
  refine pe_in0 (lv := [some (pe_r 24)]) ?_
  have hB0 := hB
  refine pe_aload_n d_Z_endWriting_0 rfl ?_
  refine pe_iconst d_Z_endWriting_1 ?_
  refine pe_putzT f_Z_29 g_10_3 d_Z_endWriting_2 rfl rfl (by first | exact Or.inl rfl | exact Or.inr rfl | omega) 3 rfl hB (fun σ2 hB e2 o2 f2 => ?_)
  try have u2_0 : σ2 24 1 = σ 24 1 := by first | exact o2 1 (by decide) | exact congrFun (f2 24 (by decide)) 1
  try have u2_1 : σ2 24 2 = σ 24 2 := by first | exact o2 2 (by decide) | exact congrFun (f2 24 (by decide)) 2
  try have u2_2 : σ2 25 2 = σ 25 2 := by first | exact o2 2 (by decide) | exact congrFun (f2 25 (by decide)) 2
  try have u2_3 : σ2 25 3 = σ 25 3 := by first | exact o2 3 (by decide) | exact congrFun (f2 25 (by decide)) 3
  refine pe_aload_n d_Z_endWriting_5 rfl ?_
  refine pe_iconst d_Z_endWriting_6 ?_
  refine pe_putzT f_Z_69 g_10_7 d_Z_endWriting_7 rfl rfl (by first | exact Or.inl rfl | exact Or.inr rfl | omega) 7 rfl hB (fun σ7 hB e7 o7 f7 => ?_)
  try have u7_0 : σ7 24 1 = σ2 24 1 := by first | exact o7 1 (by decide) | exact congrFun (f7 24 (by decide)) 1
  try have u7_1 : σ7 24 2 = σ2 24 2 := by first | exact o7 2 (by decide) | exact congrFun (f7 24 (by decide)) 2
  try have u7_2 : σ7 25 2 = σ2 25 2 := by first | exact o7 2 (by decide) | exact congrFun (f7 25 (by decide)) 2
  try have u7_3 : σ7 25 3 = σ2 25 3 := by first | exact o7 3 (by decide) | exact congrFun (f7 25 (by decide)) 3
  refine pe_rv d_Z_endWriting_10 ?_
  exact ⟨hB, (fun b hb => (f7 b (by simp at hb ⊢; try omega)).trans ((f2 b (by simp at hb ⊢; try omega)).trans (rfl))), by omega, by omega⟩
theorem t_Z_moveTo {σ : pe_H} {r c : Int} (hB : pe_B σ) (hr : 0 ≤ r ∧ r ≤ 8) (hc : 0 ≤ c ∧ c ≤ 24) : pe_M m_Z_moveTo [pe_r 24, pe_i r, pe_i c] σ (pe_qv (fun σ' => pe_B σ' ∧ (∀ b, b ∉ [24] → σ' b = σ b) ∧ σ' 24 1 = r ∧ σ' 24 2 = c)) := by
  refine pe_in0 (lv := [some (pe_r 24), some (pe_i r), some (pe_i c)]) ?_
  have hB0 := hB
  refine pe_aload_n d_Z_moveTo_0 rfl ?_
  refine pe_iload_n d_Z_moveTo_1 rfl ?_
  refine pe_putiT f_Z_33 g_10_1 d_Z_moveTo_2 rfl rfl 1 rfl hB (by first | exact hB _ _ | exact hB0 _ _ | exact hBt _ _ | exact ⟨by omega, by omega⟩) (fun σ2 hB e2 o2 f2 => ?_)
  try have u2_0 : σ2 24 1 = σ 24 1 := by first | exact o2 1 (by decide) | exact congrFun (f2 24 (by decide)) 1
  try have u2_1 : σ2 24 2 = σ 24 2 := by first | exact o2 2 (by decide) | exact congrFun (f2 24 (by decide)) 2
  try have u2_2 : σ2 25 2 = σ 25 2 := by first | exact o2 2 (by decide) | exact congrFun (f2 25 (by decide)) 2
  try have u2_3 : σ2 25 3 = σ 25 3 := by first | exact o2 3 (by decide) | exact congrFun (f2 25 (by decide)) 3
  refine pe_aload_n d_Z_moveTo_5 rfl ?_
  refine pe_iload_n d_Z_moveTo_6 rfl ?_
  refine pe_putiT f_Z_46 g_10_2 d_Z_moveTo_7 rfl rfl 2 rfl hB (by first | exact hB _ _ | exact hB0 _ _ | exact hBt _ _ | exact ⟨by omega, by omega⟩) (fun σ7 hB e7 o7 f7 => ?_)
  try have u7_0 : σ7 24 1 = σ2 24 1 := by first | exact o7 1 (by decide) | exact congrFun (f7 24 (by decide)) 1
  try have u7_1 : σ7 24 2 = σ2 24 2 := by first | exact o7 2 (by decide) | exact congrFun (f7 24 (by decide)) 2
  try have u7_2 : σ7 25 2 = σ2 25 2 := by first | exact o7 2 (by decide) | exact congrFun (f7 25 (by decide)) 2
  try have u7_3 : σ7 25 3 = σ2 25 3 := by first | exact o7 3 (by decide) | exact congrFun (f7 25 (by decide)) 3
  refine pe_aload_n d_Z_moveTo_10 rfl ?_
  refine pe_v0v d_Z_moveTo_11 c_Z_88 i_Z_endWriting s_Z_endWriting rfl rfl (t_Z_endWriting hB) (fun σ11 hz11 => ?_)
  obtain ⟨hB, f11, x11⟩ := hz11
  try have u11_0 : σ11 24 1 = σ7 24 1 := by first | exact o11 1 (by decide) | exact congrFun (f11 24 (by decide)) 1
  try have u11_1 : σ11 24 2 = σ7 24 2 := by first | exact o11 2 (by decide) | exact congrFun (f11 24 (by decide)) 2
  try have u11_2 : σ11 25 2 = σ7 25 2 := by first | exact o11 2 (by decide) | exact congrFun (f11 25 (by decide)) 2
  try have u11_3 : σ11 25 3 = σ7 25 3 := by first | exact o11 3 (by decide) | exact congrFun (f11 25 (by decide)) 3
  refine pe_rv d_Z_moveTo_14 ?_
  exact ⟨hB, (fun b hb => (f11 b (by simp at hb ⊢; try omega)).trans ((f7 b (by simp at hb ⊢; try omega)).trans ((f2 b (by simp at hb ⊢; try omega)).trans (rfl)))), by omega, by omega⟩
theorem t_Z_eraseRestOfRow {σ : pe_H} (hB : pe_B σ) (hd : 1 ≤ σ 25 2 ∧ σ 25 2 ≤ 24 ∧ 1 ≤ σ 25 3 ∧ σ 25 3 ≤ 8) (ht : 0 ≤ σ 24 1 ∧ σ 24 1 ≤ 8 ∧ 0 ≤ σ 24 2 ∧ σ 24 2 ≤ 24) : pe_M m_Z_eraseRestOfRow [pe_r 24] σ (pe_qv (fun σ' => pe_B σ' ∧ (∀ b, b ∉ [24, 26, 27] → σ' b = σ b) ∧ σ' 24 1 = σ 24 1 ∧ σ' 24 2 = σ 24 2)) := by
  refine pe_in0 (lv := [some (pe_r 24)]) ?_
  have hB0 := hB
  refine pe_aload_n d_Z_eraseRestOfRow_0 rfl ?_
  refine pe_getr f_Z_14 d_Z_eraseRestOfRow_1 rfl rfl ?_
  refine pe_aload_n d_Z_eraseRestOfRow_4 rfl ?_
  refine pe_geti f_Z_33 d_Z_eraseRestOfRow_5 rfl rfl 1 rfl ?_
  refine pe_aload_n d_Z_eraseRestOfRow_8 rfl ?_
  refine pe_geti f_Z_46 d_Z_eraseRestOfRow_9 rfl rfl 2 rfl ?_
  refine pe_v2v d_Z_eraseRestOfRow_12 c_Z_91 i_G_blankFrom s_G_blankFrom rfl rfl (t_G_blankFrom_25 hB (by omega) (by omega) (by omega)) (fun σ12 hz12 => ?_)
  obtain ⟨hB, f12⟩ := hz12
  try have u12_0 : σ12 24 1 = σ 24 1 := by first | exact o12 1 (by decide) | exact congrFun (f12 24 (by decide)) 1
  try have u12_1 : σ12 24 2 = σ 24 2 := by first | exact o12 2 (by decide) | exact congrFun (f12 24 (by decide)) 2
  try have u12_2 : σ12 25 2 = σ 25 2 := by first | exact o12 2 (by decide) | exact congrFun (f12 25 (by decide)) 2
  try have u12_3 : σ12 25 3 = σ 25 3 := by first | exact o12 3 (by decide) | exact congrFun (f12 25 (by decide)) 3
  refine pe_aload_n d_Z_eraseRestOfRow_15 rfl ?_
  refine pe_v0v d_Z_eraseRestOfRow_16 c_Z_88 i_Z_endWriting s_Z_endWriting rfl rfl (t_Z_endWriting hB) (fun σ16 hz16 => ?_)
  obtain ⟨hB, f16, x16⟩ := hz16
  try have u16_0 : σ16 24 1 = σ12 24 1 := by first | exact o16 1 (by decide) | exact congrFun (f16 24 (by decide)) 1
  try have u16_1 : σ16 24 2 = σ12 24 2 := by first | exact o16 2 (by decide) | exact congrFun (f16 24 (by decide)) 2
  try have u16_2 : σ16 25 2 = σ12 25 2 := by first | exact o16 2 (by decide) | exact congrFun (f16 25 (by decide)) 2
  try have u16_3 : σ16 25 3 = σ12 25 3 := by first | exact o16 3 (by decide) | exact congrFun (f16 25 (by decide)) 3
  refine pe_rv d_Z_eraseRestOfRow_19 ?_
  exact ⟨hB, (fun b hb => (f16 b (by simp at hb ⊢; try omega)).trans ((f12 b (by simp at hb ⊢; try omega)).trans (rfl))), by omega, by omega⟩
theorem t_Z_eraseAll {σ : pe_H} (hB : pe_B σ) (hd : 1 ≤ σ 25 2 ∧ σ 25 2 ≤ 24 ∧ 1 ≤ σ 25 3 ∧ σ 25 3 ≤ 8) (ht : 0 ≤ σ 24 1 ∧ σ 24 1 ≤ 8 ∧ 0 ≤ σ 24 2 ∧ σ 24 2 ≤ 24) : pe_M m_Z_eraseAll [pe_r 24] σ (pe_qv (fun σ' => pe_B σ' ∧ (∀ b, b ∉ [24, 26, 27] → σ' b = σ b) ∧ σ' 24 1 = σ 24 1 ∧ σ' 24 2 = σ 24 2)) := by
  refine pe_in0 (lv := [some (pe_r 24)]) ?_
  have hB0 := hB
  refine pe_aload_n d_Z_eraseAll_0 rfl ?_
  refine pe_getr f_Z_14 d_Z_eraseAll_1 rfl rfl ?_
  refine pe_v0v d_Z_eraseAll_4 c_Z_94 i_G_blankAll s_G_blankAll rfl rfl (t_G_blankAll_25 hB) (fun σ4 hz4 => ?_)
  obtain ⟨hB, f4⟩ := hz4
  try have u4_0 : σ4 24 1 = σ 24 1 := by first | exact o4 1 (by decide) | exact congrFun (f4 24 (by decide)) 1
  try have u4_1 : σ4 24 2 = σ 24 2 := by first | exact o4 2 (by decide) | exact congrFun (f4 24 (by decide)) 2
  try have u4_2 : σ4 25 2 = σ 25 2 := by first | exact o4 2 (by decide) | exact congrFun (f4 25 (by decide)) 2
  try have u4_3 : σ4 25 3 = σ 25 3 := by first | exact o4 3 (by decide) | exact congrFun (f4 25 (by decide)) 3
  refine pe_aload_n d_Z_eraseAll_7 rfl ?_
  refine pe_v0v d_Z_eraseAll_8 c_Z_88 i_Z_endWriting s_Z_endWriting rfl rfl (t_Z_endWriting hB) (fun σ8 hz8 => ?_)
  obtain ⟨hB, f8, x8⟩ := hz8
  try have u8_0 : σ8 24 1 = σ4 24 1 := by first | exact o8 1 (by decide) | exact congrFun (f8 24 (by decide)) 1
  try have u8_1 : σ8 24 2 = σ4 24 2 := by first | exact o8 2 (by decide) | exact congrFun (f8 24 (by decide)) 2
  try have u8_2 : σ8 25 2 = σ4 25 2 := by first | exact o8 2 (by decide) | exact congrFun (f8 25 (by decide)) 2
  try have u8_3 : σ8 25 3 = σ4 25 3 := by first | exact o8 3 (by decide) | exact congrFun (f8 25 (by decide)) 3
  refine pe_rv d_Z_eraseAll_11 ?_
  exact ⟨hB, (fun b hb => (f8 b (by simp at hb ⊢; try omega)).trans ((f4 b (by simp at hb ⊢; try omega)).trans (rfl))), by omega, by omega⟩
theorem t_Z_resize {σ : pe_H} {r c : Int} (hB : pe_B σ) (hd : 1 ≤ σ 25 2 ∧ σ 25 2 ≤ 24 ∧ 1 ≤ σ 25 3 ∧ σ 25 3 ≤ 8) (ht : 0 ≤ σ 24 1 ∧ σ 24 1 ≤ 8 ∧ 0 ≤ σ 24 2 ∧ σ 24 2 ≤ 24) (hc : 1 ≤ c ∧ c ≤ 24) (hr : 1 ≤ r ∧ r ≤ 8) : pe_M m_Z_resize [pe_r 24, pe_i c, pe_i r] σ (pe_qv (fun σ' => pe_B σ' ∧ (∀ b, b ∉ [24, 25, 26, 27] → σ' b = σ b) ∧ σ' 24 1 = 0 ∧ σ' 24 2 = 0 ∧ σ' 25 2 = c ∧ σ' 25 3 = r)) := by
  refine pe_in0 (lv := [some (pe_r 24), some (pe_i c), some (pe_i r)]) ?_
  have hB0 := hB
  refine pe_aload_n d_Z_resize_0 rfl ?_
  refine pe_getr f_Z_14 d_Z_resize_1 rfl rfl ?_
  refine pe_iload_n d_Z_resize_4 rfl ?_
  refine pe_iload_n d_Z_resize_5 rfl ?_
  refine pe_v2v d_Z_resize_6 c_Z_97 i_G_resize s_G_resize rfl rfl (t_G_resize_25 hB (by omega) (by omega) (by omega)) (fun σ6 hz6 => ?_)
  obtain ⟨hB, f6, x6⟩ := hz6
  try have u6_0 : σ6 24 1 = σ 24 1 := by first | exact o6 1 (by decide) | exact congrFun (f6 24 (by decide)) 1
  try have u6_1 : σ6 24 2 = σ 24 2 := by first | exact o6 2 (by decide) | exact congrFun (f6 24 (by decide)) 2
  try have u6_2 : σ6 25 2 = σ 25 2 := by first | exact o6 2 (by decide) | exact congrFun (f6 25 (by decide)) 2
  try have u6_3 : σ6 25 3 = σ 25 3 := by first | exact o6 3 (by decide) | exact congrFun (f6 25 (by decide)) 3
  refine pe_aload_n d_Z_resize_9 rfl ?_
  refine pe_iconst d_Z_resize_10 ?_
  refine pe_iconst d_Z_resize_11 ?_
  refine pe_v2v d_Z_resize_12 c_Z_100 i_Z_moveTo s_Z_moveTo rfl rfl (t_Z_moveTo hB (by omega) (by omega)) (fun σ12 hz12 => ?_)
  obtain ⟨hB, f12, x12⟩ := hz12
  try have u12_0 : σ12 24 1 = σ6 24 1 := by first | exact o12 1 (by decide) | exact congrFun (f12 24 (by decide)) 1
  try have u12_1 : σ12 24 2 = σ6 24 2 := by first | exact o12 2 (by decide) | exact congrFun (f12 24 (by decide)) 2
  try have u12_2 : σ12 25 2 = σ6 25 2 := by first | exact o12 2 (by decide) | exact congrFun (f12 25 (by decide)) 2
  try have u12_3 : σ12 25 3 = σ6 25 3 := by first | exact o12 3 (by decide) | exact congrFun (f12 25 (by decide)) 3
  refine pe_rv d_Z_resize_15 ?_
  exact ⟨hB, (fun b hb => (f12 b (by simp at hb ⊢; try omega)).trans ((f6 b (by simp at hb ⊢; try omega)).trans (rfl))), by omega, by omega, by omega, by omega⟩
theorem t_Z_joins {σ : pe_H} {m : Int} (hB : pe_B σ) (hd : 1 ≤ σ 25 2 ∧ σ 25 2 ≤ 24 ∧ 1 ≤ σ 25 3 ∧ σ 25 3 ≤ 8) (ht : 0 ≤ σ 24 1 ∧ σ 24 1 ≤ 8 ∧ 0 ≤ σ 24 2 ∧ σ 24 2 ≤ 24) (hm : pe_R m) : pe_M m_Z_joins [pe_r 24, pe_i m] σ (pe_qi (fun z σ' => pe_B σ' ∧ (∀ b, b ∉ [26, 27] → σ' b = σ b) ∧ (z = 0 ∨ z = 1))) := by
  refine pe_in0 (lv := [some (pe_r 24), some (pe_i m), none]) ?_
  have hB0 := hB
  refine pe_aload_n d_Z_joins_0 rfl ?_
  refine pe_getr f_Z_14 d_Z_joins_1 rfl rfl ?_
  refine pe_aload_n d_Z_joins_4 rfl ?_
  refine pe_geti f_Z_60 d_Z_joins_5 rfl rfl 5 rfl ?_
  refine pe_aload_n d_Z_joins_8 rfl ?_
  refine pe_geti f_Z_63 d_Z_joins_9 rfl rfl 6 rfl ?_
  refine pe_v2p d_Z_joins_12 c_Z_66 i_G_clusterAt s_G_clusterAt rfl rfl (t_G_clusterAt_25 hB (by omega) (by first | exact hB _ _ | exact hB0 _ _ | exact hBt _ _ | exact ⟨by omega, by omega⟩) (by first | exact hB _ _ | exact hB0 _ _ | exact hBt _ _ | exact ⟨by omega, by omega⟩)) (fun z12 hz12 => ?_)
  refine pe_istore_n d_Z_joins_15 ?_
  refine pe_aload_n d_Z_joins_16 rfl ?_
  refine pe_geti f_Z_69 d_Z_joins_17 rfl rfl 7 rfl ?_
  refine pe_if_eq (t := 31) d_Z_joins_20 (by first | exact hB _ _ | exact hB0 _ _ | exact hBt _ _ | exact ⟨by omega, by omega⟩) (fun h20 => ?_) (fun h20 => ?_)
  · skip
    refine pe_iconst d_Z_joins_31 ?_
    refine pe_rz d_Z_joins_32 (by first | exact Or.inl rfl | exact Or.inr rfl | omega) ?_
    exact ⟨hB, (fun b hb => rfl), by omega⟩
  · skip
    refine pe_iload_n d_Z_joins_23 rfl ?_
    refine pe_s1p d_Z_joins_24 c_Z_72 z_C_secondMarkOf (t_C_secondMarkOf (by first | exact hB _ _ | exact hB0 _ _ | exact hBt _ _ | exact ⟨by omega, by omega⟩)) (fun z24 hz24 => ?_)
    refine pe_iconst d_Z_joins_27 ?_
    refine pe_icmp_eq (t := 33) d_Z_joins_28 (by first | exact hB _ _ | exact hB0 _ _ | exact hBt _ _ | exact ⟨by omega, by omega⟩) (by first | exact hB _ _ | exact hB0 _ _ | exact hBt _ _ | exact ⟨by omega, by omega⟩) (fun h28 => ?_) (fun h28 => ?_)
    · skip
      refine pe_aload_n d_Z_joins_33 rfl ?_
      refine pe_getr f_Z_14 d_Z_joins_34 rfl rfl ?_
      refine pe_aload_n d_Z_joins_37 rfl ?_
      refine pe_geti f_Z_60 d_Z_joins_38 rfl rfl 5 rfl ?_
      refine pe_aload_n d_Z_joins_41 rfl ?_
      refine pe_geti f_Z_63 d_Z_joins_42 rfl rfl 6 rfl ?_
      refine pe_iload_n d_Z_joins_45 rfl ?_
      refine pe_iload_n d_Z_joins_46 rfl ?_
      refine pe_s2p d_Z_joins_47 c_Z_75 z_C_withMark (t_C_withMark (by first | exact hB _ _ | exact hB0 _ _ | exact hBt _ _ | exact ⟨by omega, by omega⟩) (by first | exact hB _ _ | exact hB0 _ _ | exact hBt _ _ | exact ⟨by omega, by omega⟩)) (fun z47 hz47 => ?_)
      refine pe_aload_n d_Z_joins_50 rfl ?_
      refine pe_getr f_Z_14 d_Z_joins_51 rfl rfl ?_
      refine pe_aload_n d_Z_joins_54 rfl ?_
      refine pe_geti f_Z_60 d_Z_joins_55 rfl rfl 5 rfl ?_
      refine pe_aload_n d_Z_joins_58 rfl ?_
      refine pe_geti f_Z_63 d_Z_joins_59 rfl rfl 6 rfl ?_
      refine pe_v2p d_Z_joins_62 c_Z_78 i_G_lookAt s_G_lookAt rfl rfl (t_G_lookAt_25 hB (by omega) (by first | exact hB _ _ | exact hB0 _ _ | exact hBt _ _ | exact ⟨by omega, by omega⟩) (by first | exact hB _ _ | exact hB0 _ _ | exact hBt _ _ | exact ⟨by omega, by omega⟩)) (fun z62 hz62 => ?_)
      refine pe_v4v d_Z_joins_65 c_Z_81 i_G_put s_G_put rfl rfl (t_G_put_25 hB (by omega) (by first | exact hB _ _ | exact hB0 _ _ | exact hBt _ _ | exact ⟨by omega, by omega⟩) (by first | exact hB _ _ | exact hB0 _ _ | exact hBt _ _ | exact ⟨by omega, by omega⟩) (by first | exact hB _ _ | exact hB0 _ _ | exact hBt _ _ | exact ⟨by omega, by omega⟩) (by first | exact hB _ _ | exact hB0 _ _ | exact hBt _ _ | exact ⟨by omega, by omega⟩)) (fun σ65 hz65 => ?_)
      obtain ⟨hB, f65⟩ := hz65
      try have u65_0 : σ65 24 1 = σ 24 1 := by first | exact o65 1 (by decide) | exact congrFun (f65 24 (by decide)) 1
      try have u65_1 : σ65 24 2 = σ 24 2 := by first | exact o65 2 (by decide) | exact congrFun (f65 24 (by decide)) 2
      try have u65_2 : σ65 25 2 = σ 25 2 := by first | exact o65 2 (by decide) | exact congrFun (f65 25 (by decide)) 2
      try have u65_3 : σ65 25 3 = σ 25 3 := by first | exact o65 3 (by decide) | exact congrFun (f65 25 (by decide)) 3
      refine pe_iconst d_Z_joins_68 ?_
      refine pe_rz d_Z_joins_69 (by first | exact Or.inl rfl | exact Or.inr rfl | omega) ?_
      exact ⟨hB, (fun b hb => (f65 b (by simp at hb ⊢; try omega)).trans (rfl)), by omega⟩
    · skip
      refine pe_iconst d_Z_joins_31 ?_
      refine pe_rz d_Z_joins_32 (by first | exact Or.inl rfl | exact Or.inr rfl | omega) ?_
      exact ⟨hB, (fun b hb => rfl), by omega⟩
set_option maxHeartbeats 1000000 in
theorem t_Z_writeCells {σ : pe_H} {k : Int} (hB : pe_B σ) (hd : 1 ≤ σ 25 2 ∧ σ 25 2 ≤ 24 ∧ 1 ≤ σ 25 3 ∧ σ 25 3 ≤ 8) (ht : 0 ≤ σ 24 1 ∧ σ 24 1 ≤ 8 ∧ 0 ≤ σ 24 2 ∧ σ 24 2 ≤ 24) (hk : pe_R k) : pe_M m_Z_writeCells [pe_r 24, pe_i k] σ (pe_qv (fun σ' => pe_B σ' ∧ (∀ b, b ∉ [24, 26, 27] → σ' b = σ b) ∧ (0 ≤ σ' 24 1 ∧ σ' 24 1 ≤ 8 ∧ 0 ≤ σ' 24 2 ∧ σ' 24 2 ≤ 24))) := by
  refine pe_in0 (lv := [some (pe_r 24), some (pe_i k), none]) ?_
  have hB0 := hB
  have J130 : ∀ wt : Int × pe_H, ((wt.1 = 1 ∨ wt.1 = 2) ∧ pe_B wt.2 ∧ (∀ b, b ∉ [26, 27] → wt.2 b = σ b)) → pe_G m_Z_writeCells 130 [some (pe_r 24), some (pe_i k), some (pe_i wt.1)] [] wt.2 (pe_qv (fun σ' => pe_B σ' ∧ (∀ b, b ∉ [24, 26, 27] → σ' b = σ b) ∧ (0 ≤ σ' 24 1 ∧ σ' 24 1 ≤ 8 ∧ 0 ≤ σ' 24 2 ∧ σ' 24 2 ≤ 24))) := by
    intro wt hI
    obtain ⟨w, τ⟩ := wt
    dsimp only at hI ⊢
    obtain ⟨hw, hI⟩ := hI
    obtain ⟨hB, hfr⟩ := hI
    have v_24_1 : τ 24 1 = σ 24 1 := congrFun (hfr 24 (by decide)) 1
    have v_24_2 : τ 24 2 = σ 24 2 := congrFun (hfr 24 (by decide)) 2
    have v_25_2 : τ 25 2 = σ 25 2 := congrFun (hfr 25 (by decide)) 2
    have v_25_3 : τ 25 3 = σ 25 3 := congrFun (hfr 25 (by decide)) 3
    have hBt := hB
    refine pe_aload_n d_Z_writeCells_130 rfl ?_
    refine pe_aload_n d_Z_writeCells_131 rfl ?_
    refine pe_geti f_Z_33 d_Z_writeCells_132 rfl rfl 1 rfl ?_
    refine pe_putiT f_Z_60 g_10_5 d_Z_writeCells_135 rfl rfl 5 rfl hB (by first | exact hB _ _ | exact hB0 _ _ | exact hBt _ _ | exact ⟨by omega, by omega⟩) (fun σ135 hB e135 o135 f135 => ?_)
    try have u135_0 : σ135 24 1 = τ 24 1 := by first | exact o135 1 (by decide) | exact congrFun (f135 24 (by decide)) 1
    try have u135_1 : σ135 24 2 = τ 24 2 := by first | exact o135 2 (by decide) | exact congrFun (f135 24 (by decide)) 2
    try have u135_2 : σ135 25 2 = τ 25 2 := by first | exact o135 2 (by decide) | exact congrFun (f135 25 (by decide)) 2
    try have u135_3 : σ135 25 3 = τ 25 3 := by first | exact o135 3 (by decide) | exact congrFun (f135 25 (by decide)) 3
    refine pe_aload_n d_Z_writeCells_138 rfl ?_
    refine pe_aload_n d_Z_writeCells_139 rfl ?_
    refine pe_geti f_Z_46 d_Z_writeCells_140 rfl rfl 2 rfl ?_
    refine pe_putiT f_Z_63 g_10_6 d_Z_writeCells_143 rfl rfl 6 rfl hB (by first | exact hB _ _ | exact hB0 _ _ | exact hBt _ _ | exact ⟨by omega, by omega⟩) (fun σ143 hB e143 o143 f143 => ?_)
    try have u143_0 : σ143 24 1 = σ135 24 1 := by first | exact o143 1 (by decide) | exact congrFun (f143 24 (by decide)) 1
    try have u143_1 : σ143 24 2 = σ135 24 2 := by first | exact o143 2 (by decide) | exact congrFun (f143 24 (by decide)) 2
    try have u143_2 : σ143 25 2 = σ135 25 2 := by first | exact o143 2 (by decide) | exact congrFun (f143 25 (by decide)) 2
    try have u143_3 : σ143 25 3 = σ135 25 3 := by first | exact o143 3 (by decide) | exact congrFun (f143 25 (by decide)) 3
    refine pe_aload_n d_Z_writeCells_146 rfl ?_
    refine pe_iconst d_Z_writeCells_147 ?_
    refine pe_putzT f_Z_69 g_10_7 d_Z_writeCells_148 rfl rfl (by first | exact Or.inl rfl | exact Or.inr rfl | omega) 7 rfl hB (fun σ148 hB e148 o148 f148 => ?_)
    try have u148_0 : σ148 24 1 = σ143 24 1 := by first | exact o148 1 (by decide) | exact congrFun (f148 24 (by decide)) 1
    try have u148_1 : σ148 24 2 = σ143 24 2 := by first | exact o148 2 (by decide) | exact congrFun (f148 24 (by decide)) 2
    try have u148_2 : σ148 25 2 = σ143 25 2 := by first | exact o148 2 (by decide) | exact congrFun (f148 25 (by decide)) 2
    try have u148_3 : σ148 25 3 = σ143 25 3 := by first | exact o148 3 (by decide) | exact congrFun (f148 25 (by decide)) 3
    refine pe_aload_n d_Z_writeCells_151 rfl ?_
    refine pe_aload_n d_Z_writeCells_152 rfl ?_
    refine pe_geti f_Z_46 d_Z_writeCells_153 rfl rfl 2 rfl ?_
    refine pe_iload_n d_Z_writeCells_156 rfl ?_
    refine pe_iadd d_Z_writeCells_157 ?_
    refine pe_aload_n d_Z_writeCells_158 rfl ?_
    refine pe_getr f_Z_14 d_Z_writeCells_159 rfl rfl ?_
    refine pe_geti f_Z_53 d_Z_writeCells_162 rfl rfl 2 rfl ?_
    refine pe_icmp_lt (t := 172) d_Z_writeCells_165 (by first | exact hB _ _ | exact hB0 _ _ | exact hBt _ _ | exact ⟨by omega, by omega⟩) (by first | exact hB _ _ | exact hB0 _ _ | exact hBt _ _ | exact ⟨by omega, by omega⟩) (fun h165 => ?_) (fun h165 => ?_)
    · skip
      refine pe_iconst d_Z_writeCells_172 ?_
      refine pe_putzT f_Z_29 g_10_3 d_Z_writeCells_173 rfl rfl (by first | exact Or.inl rfl | exact Or.inr rfl | omega) 3 rfl hB (fun σ173 hB e173 o173 f173 => ?_)
      try have u173_0 : σ173 24 1 = σ148 24 1 := by first | exact o173 1 (by decide) | exact congrFun (f173 24 (by decide)) 1
      try have u173_1 : σ173 24 2 = σ148 24 2 := by first | exact o173 2 (by decide) | exact congrFun (f173 24 (by decide)) 2
      try have u173_2 : σ173 25 2 = σ148 25 2 := by first | exact o173 2 (by decide) | exact congrFun (f173 25 (by decide)) 2
      try have u173_3 : σ173 25 3 = σ148 25 3 := by first | exact o173 3 (by decide) | exact congrFun (f173 25 (by decide)) 3
      refine pe_aload_n d_Z_writeCells_176 rfl ?_
      refine pe_aload_n d_Z_writeCells_177 rfl ?_
      refine pe_geti f_Z_46 d_Z_writeCells_178 rfl rfl 2 rfl ?_
      refine pe_iload_n d_Z_writeCells_181 rfl ?_
      refine pe_iadd d_Z_writeCells_182 ?_
      refine pe_aload_n d_Z_writeCells_183 rfl ?_
      refine pe_getr f_Z_14 d_Z_writeCells_184 rfl rfl ?_
      refine pe_geti f_Z_53 d_Z_writeCells_187 rfl rfl 2 rfl ?_
      refine pe_iconst d_Z_writeCells_190 ?_
      refine pe_isub d_Z_writeCells_191 ?_
      refine pe_minT c_Z_40 d_Z_writeCells_192 (by first | exact hB _ _ | exact hB0 _ _ | exact hBt _ _ | exact ⟨by omega, by omega⟩) (by first | exact hB _ _ | exact hB0 _ _ | exact hBt _ _ | exact ⟨by omega, by omega⟩) (fun z192 hz192 => ?_)
      refine pe_putiT f_Z_46 g_10_2 d_Z_writeCells_195 rfl rfl 2 rfl hB (by first | exact hB _ _ | exact hB0 _ _ | exact hBt _ _ | exact ⟨by omega, by omega⟩) (fun σ195 hB e195 o195 f195 => ?_)
      try have u195_0 : σ195 24 1 = σ173 24 1 := by first | exact o195 1 (by decide) | exact congrFun (f195 24 (by decide)) 1
      try have u195_1 : σ195 24 2 = σ173 24 2 := by first | exact o195 2 (by decide) | exact congrFun (f195 24 (by decide)) 2
      try have u195_2 : σ195 25 2 = σ173 25 2 := by first | exact o195 2 (by decide) | exact congrFun (f195 25 (by decide)) 2
      try have u195_3 : σ195 25 3 = σ173 25 3 := by first | exact o195 3 (by decide) | exact congrFun (f195 25 (by decide)) 3
      refine pe_rv d_Z_writeCells_198 ?_
      exact ⟨hB, (fun b hb => (f195 b (by simp at hb ⊢; try omega)).trans ((f173 b (by simp at hb ⊢; try omega)).trans ((f148 b (by simp at hb ⊢; try omega)).trans ((f143 b (by simp at hb ⊢; try omega)).trans ((f135 b (by simp at hb ⊢; try omega)).trans (hfr b (by simp at hb ⊢; try omega))))))), by omega⟩
    · skip
      refine pe_iconst d_Z_writeCells_168 ?_
      refine pe_goto (t := 173) d_Z_writeCells_169 ?_
      refine pe_putzT f_Z_29 g_10_3 d_Z_writeCells_173 rfl rfl (by first | exact Or.inl rfl | exact Or.inr rfl | omega) 3 rfl hB (fun σ173 hB e173 o173 f173 => ?_)
      try have u173_0 : σ173 24 1 = σ148 24 1 := by first | exact o173 1 (by decide) | exact congrFun (f173 24 (by decide)) 1
      try have u173_1 : σ173 24 2 = σ148 24 2 := by first | exact o173 2 (by decide) | exact congrFun (f173 24 (by decide)) 2
      try have u173_2 : σ173 25 2 = σ148 25 2 := by first | exact o173 2 (by decide) | exact congrFun (f173 25 (by decide)) 2
      try have u173_3 : σ173 25 3 = σ148 25 3 := by first | exact o173 3 (by decide) | exact congrFun (f173 25 (by decide)) 3
      refine pe_aload_n d_Z_writeCells_176 rfl ?_
      refine pe_aload_n d_Z_writeCells_177 rfl ?_
      refine pe_geti f_Z_46 d_Z_writeCells_178 rfl rfl 2 rfl ?_
      refine pe_iload_n d_Z_writeCells_181 rfl ?_
      refine pe_iadd d_Z_writeCells_182 ?_
      refine pe_aload_n d_Z_writeCells_183 rfl ?_
      refine pe_getr f_Z_14 d_Z_writeCells_184 rfl rfl ?_
      refine pe_geti f_Z_53 d_Z_writeCells_187 rfl rfl 2 rfl ?_
      refine pe_iconst d_Z_writeCells_190 ?_
      refine pe_isub d_Z_writeCells_191 ?_
      refine pe_minT c_Z_40 d_Z_writeCells_192 (by first | exact hB _ _ | exact hB0 _ _ | exact hBt _ _ | exact ⟨by omega, by omega⟩) (by first | exact hB _ _ | exact hB0 _ _ | exact hBt _ _ | exact ⟨by omega, by omega⟩) (fun z192 hz192 => ?_)
      refine pe_putiT f_Z_46 g_10_2 d_Z_writeCells_195 rfl rfl 2 rfl hB (by first | exact hB _ _ | exact hB0 _ _ | exact hBt _ _ | exact ⟨by omega, by omega⟩) (fun σ195 hB e195 o195 f195 => ?_)
      try have u195_0 : σ195 24 1 = σ173 24 1 := by first | exact o195 1 (by decide) | exact congrFun (f195 24 (by decide)) 1
      try have u195_1 : σ195 24 2 = σ173 24 2 := by first | exact o195 2 (by decide) | exact congrFun (f195 24 (by decide)) 2
      try have u195_2 : σ195 25 2 = σ173 25 2 := by first | exact o195 2 (by decide) | exact congrFun (f195 25 (by decide)) 2
      try have u195_3 : σ195 25 3 = σ173 25 3 := by first | exact o195 3 (by decide) | exact congrFun (f195 25 (by decide)) 3
      refine pe_rv d_Z_writeCells_198 ?_
      exact ⟨hB, (fun b hb => (f195 b (by simp at hb ⊢; try omega)).trans ((f173 b (by simp at hb ⊢; try omega)).trans ((f148 b (by simp at hb ⊢; try omega)).trans ((f143 b (by simp at hb ⊢; try omega)).trans ((f135 b (by simp at hb ⊢; try omega)).trans (hfr b (by simp at hb ⊢; try omega))))))), by omega⟩
  have J83 : ∀ wt : Int × pe_H, ((wt.1 = 1 ∨ wt.1 = 2) ∧ pe_B wt.2 ∧ (∀ b, b ∉ [26, 27] → wt.2 b = σ b)) → pe_G m_Z_writeCells 83 [some (pe_r 24), some (pe_i k), some (pe_i wt.1)] [] wt.2 (pe_qv (fun σ' => pe_B σ' ∧ (∀ b, b ∉ [24, 26, 27] → σ' b = σ b) ∧ (0 ≤ σ' 24 1 ∧ σ' 24 1 ≤ 8 ∧ 0 ≤ σ' 24 2 ∧ σ' 24 2 ≤ 24))) := by
    intro wt hI
    obtain ⟨w, τ⟩ := wt
    dsimp only at hI ⊢
    obtain ⟨hw, hI⟩ := hI
    obtain ⟨hB, hfr⟩ := hI
    have v_24_1 : τ 24 1 = σ 24 1 := congrFun (hfr 24 (by decide)) 1
    have v_24_2 : τ 24 2 = σ 24 2 := congrFun (hfr 24 (by decide)) 2
    have v_25_2 : τ 25 2 = σ 25 2 := congrFun (hfr 25 (by decide)) 2
    have v_25_3 : τ 25 3 = σ 25 3 := congrFun (hfr 25 (by decide)) 3
    have hBt := hB
    refine pe_aload_n d_Z_writeCells_83 rfl ?_
    refine pe_getr f_Z_14 d_Z_writeCells_84 rfl rfl ?_
    refine pe_aload_n d_Z_writeCells_87 rfl ?_
    refine pe_geti f_Z_33 d_Z_writeCells_88 rfl rfl 1 rfl ?_
    refine pe_aload_n d_Z_writeCells_91 rfl ?_
    refine pe_geti f_Z_46 d_Z_writeCells_92 rfl rfl 2 rfl ?_
    refine pe_iload_n d_Z_writeCells_95 rfl ?_
    refine pe_aload_n d_Z_writeCells_96 rfl ?_
    refine pe_geti f_Z_85 d_Z_writeCells_97 rfl rfl 4 rfl ?_
    refine pe_v4v d_Z_writeCells_100 c_Z_81 i_G_put s_G_put rfl rfl (t_G_put_25 hB (by omega) (by first | exact hB _ _ | exact hB0 _ _ | exact hBt _ _ | exact ⟨by omega, by omega⟩) (by first | exact hB _ _ | exact hB0 _ _ | exact hBt _ _ | exact ⟨by omega, by omega⟩) (by first | exact hB _ _ | exact hB0 _ _ | exact hBt _ _ | exact ⟨by omega, by omega⟩) (by first | exact hB _ _ | exact hB0 _ _ | exact hBt _ _ | exact ⟨by omega, by omega⟩)) (fun σ100 hz100 => ?_)
    obtain ⟨hB, f100⟩ := hz100
    try have u100_0 : σ100 24 1 = τ 24 1 := by first | exact o100 1 (by decide) | exact congrFun (f100 24 (by decide)) 1
    try have u100_1 : σ100 24 2 = τ 24 2 := by first | exact o100 2 (by decide) | exact congrFun (f100 24 (by decide)) 2
    try have u100_2 : σ100 25 2 = τ 25 2 := by first | exact o100 2 (by decide) | exact congrFun (f100 25 (by decide)) 2
    try have u100_3 : σ100 25 3 = τ 25 3 := by first | exact o100 3 (by decide) | exact congrFun (f100 25 (by decide)) 3
    refine pe_iload_n d_Z_writeCells_103 rfl ?_
    refine pe_iconst d_Z_writeCells_104 ?_
    refine pe_icmp_ne (t := 130) d_Z_writeCells_105 (by first | exact hB _ _ | exact hB0 _ _ | exact hBt _ _ | exact ⟨by omega, by omega⟩) (by first | exact hB _ _ | exact hB0 _ _ | exact hBt _ _ | exact ⟨by omega, by omega⟩) (fun h105 => ?_) (fun h105 => ?_)
    · skip
      exact J130 (_, _) ⟨by (try dsimp only); omega, hB, (fun b hb => (f100 b (by simp at hb ⊢; try omega)).trans (hfr b (by simp at hb ⊢; try omega)))⟩
    · skip
      refine pe_aload_n d_Z_writeCells_108 rfl ?_
      refine pe_getr f_Z_14 d_Z_writeCells_109 rfl rfl ?_
      refine pe_aload_n d_Z_writeCells_112 rfl ?_
      refine pe_geti f_Z_33 d_Z_writeCells_113 rfl rfl 1 rfl ?_
      refine pe_aload_n d_Z_writeCells_116 rfl ?_
      refine pe_geti f_Z_46 d_Z_writeCells_117 rfl rfl 2 rfl ?_
      refine pe_iconst d_Z_writeCells_120 ?_
      refine pe_iadd d_Z_writeCells_121 ?_
      refine pe_iconst d_Z_writeCells_122 ?_
      refine pe_aload_n d_Z_writeCells_123 rfl ?_
      refine pe_geti f_Z_85 d_Z_writeCells_124 rfl rfl 4 rfl ?_
      refine pe_v4v d_Z_writeCells_127 c_Z_81 i_G_put s_G_put rfl rfl (t_G_put_25 hB (by omega) (by first | exact hB _ _ | exact hB0 _ _ | exact hBt _ _ | exact ⟨by omega, by omega⟩) (by first | exact hB _ _ | exact hB0 _ _ | exact hBt _ _ | exact ⟨by omega, by omega⟩) (by first | exact hB _ _ | exact hB0 _ _ | exact hBt _ _ | exact ⟨by omega, by omega⟩) (by first | exact hB _ _ | exact hB0 _ _ | exact hBt _ _ | exact ⟨by omega, by omega⟩)) (fun σ127 hz127 => ?_)
      obtain ⟨hB, f127⟩ := hz127
      try have u127_0 : σ127 24 1 = σ100 24 1 := by first | exact o127 1 (by decide) | exact congrFun (f127 24 (by decide)) 1
      try have u127_1 : σ127 24 2 = σ100 24 2 := by first | exact o127 2 (by decide) | exact congrFun (f127 24 (by decide)) 2
      try have u127_2 : σ127 25 2 = σ100 25 2 := by first | exact o127 2 (by decide) | exact congrFun (f127 25 (by decide)) 2
      try have u127_3 : σ127 25 3 = σ100 25 3 := by first | exact o127 3 (by decide) | exact congrFun (f127 25 (by decide)) 3
      exact J130 (_, _) ⟨by (try dsimp only); omega, hB, (fun b hb => (f127 b (by simp at hb ⊢; try omega)).trans ((f100 b (by simp at hb ⊢; try omega)).trans (hfr b (by simp at hb ⊢; try omega))))⟩
  have J43 : ∀ wt : Int × pe_H, ((wt.1 = 1 ∨ wt.1 = 2) ∧ pe_B wt.2 ∧ (∀ b, b ∉ [26, 27] → wt.2 b = σ b)) → pe_G m_Z_writeCells 43 [some (pe_r 24), some (pe_i k), some (pe_i wt.1)] [] wt.2 (pe_qv (fun σ' => pe_B σ' ∧ (∀ b, b ∉ [24, 26, 27] → σ' b = σ b) ∧ (0 ≤ σ' 24 1 ∧ σ' 24 1 ≤ 8 ∧ 0 ≤ σ' 24 2 ∧ σ' 24 2 ≤ 24))) := by
    intro wt hI
    obtain ⟨w, τ⟩ := wt
    dsimp only at hI ⊢
    obtain ⟨hw, hI⟩ := hI
    obtain ⟨hB, hfr⟩ := hI
    have v_24_1 : τ 24 1 = σ 24 1 := congrFun (hfr 24 (by decide)) 1
    have v_24_2 : τ 24 2 = σ 24 2 := congrFun (hfr 24 (by decide)) 2
    have v_25_2 : τ 25 2 = σ 25 2 := congrFun (hfr 25 (by decide)) 2
    have v_25_3 : τ 25 3 = σ 25 3 := congrFun (hfr 25 (by decide)) 3
    have hBt := hB
    refine pe_aload_n d_Z_writeCells_43 rfl ?_
    refine pe_getr f_Z_14 d_Z_writeCells_44 rfl rfl ?_
    refine pe_aload_n d_Z_writeCells_47 rfl ?_
    refine pe_geti f_Z_33 d_Z_writeCells_48 rfl rfl 1 rfl ?_
    refine pe_aload_n d_Z_writeCells_51 rfl ?_
    refine pe_geti f_Z_46 d_Z_writeCells_52 rfl rfl 2 rfl ?_
    refine pe_iload_n d_Z_writeCells_55 rfl ?_
    refine pe_iadd d_Z_writeCells_56 ?_
    refine pe_v2p d_Z_writeCells_57 c_Z_66 i_G_clusterAt s_G_clusterAt rfl rfl (t_G_clusterAt_25 hB (by omega) (by first | exact hB _ _ | exact hB0 _ _ | exact hBt _ _ | exact ⟨by omega, by omega⟩) (by first | exact hB _ _ | exact hB0 _ _ | exact hBt _ _ | exact ⟨by omega, by omega⟩)) (fun z57 hz57 => ?_)
    refine pe_if_ne (t := 83) d_Z_writeCells_60 (by first | exact hB _ _ | exact hB0 _ _ | exact hBt _ _ | exact ⟨by omega, by omega⟩) (fun h60 => ?_) (fun h60 => ?_)
    · skip
      exact J83 (_, _) ⟨by (try dsimp only); omega, hB, (fun b hb => hfr b (by simp at hb ⊢; try omega))⟩
    · skip
      refine pe_aload_n d_Z_writeCells_63 rfl ?_
      refine pe_getr f_Z_14 d_Z_writeCells_64 rfl rfl ?_
      refine pe_aload_n d_Z_writeCells_67 rfl ?_
      refine pe_geti f_Z_33 d_Z_writeCells_68 rfl rfl 1 rfl ?_
      refine pe_aload_n d_Z_writeCells_71 rfl ?_
      refine pe_geti f_Z_46 d_Z_writeCells_72 rfl rfl 2 rfl ?_
      refine pe_iload_n d_Z_writeCells_75 rfl ?_
      refine pe_iadd d_Z_writeCells_76 ?_
      refine pe_bipush d_Z_writeCells_77 ?_
      refine pe_iconst d_Z_writeCells_79 ?_
      refine pe_v4v d_Z_writeCells_80 c_Z_81 i_G_put s_G_put rfl rfl (t_G_put_25 hB (by omega) (by first | exact hB _ _ | exact hB0 _ _ | exact hBt _ _ | exact ⟨by omega, by omega⟩) (by first | exact hB _ _ | exact hB0 _ _ | exact hBt _ _ | exact ⟨by omega, by omega⟩) (by first | exact hB _ _ | exact hB0 _ _ | exact hBt _ _ | exact ⟨by omega, by omega⟩) (by first | exact hB _ _ | exact hB0 _ _ | exact hBt _ _ | exact ⟨by omega, by omega⟩)) (fun σ80 hz80 => ?_)
      obtain ⟨hB, f80⟩ := hz80
      try have u80_0 : σ80 24 1 = τ 24 1 := by first | exact o80 1 (by decide) | exact congrFun (f80 24 (by decide)) 1
      try have u80_1 : σ80 24 2 = τ 24 2 := by first | exact o80 2 (by decide) | exact congrFun (f80 24 (by decide)) 2
      try have u80_2 : σ80 25 2 = τ 25 2 := by first | exact o80 2 (by decide) | exact congrFun (f80 25 (by decide)) 2
      try have u80_3 : σ80 25 3 = τ 25 3 := by first | exact o80 3 (by decide) | exact congrFun (f80 25 (by decide)) 3
      exact J83 (_, _) ⟨by (try dsimp only); omega, hB, (fun b hb => (f80 b (by simp at hb ⊢; try omega)).trans (hfr b (by simp at hb ⊢; try omega)))⟩
  refine pe_iload_n d_Z_writeCells_0 rfl ?_
  refine pe_s1p d_Z_writeCells_1 c_Z_49 z_C_widthOf (t_C_widthOf (by first | exact hB _ _ | exact hB0 _ _ | exact hBt _ _ | exact ⟨by omega, by omega⟩)) (fun z1 hz1 => ?_)
  refine pe_istore_n d_Z_writeCells_4 ?_
  refine pe_aload_n d_Z_writeCells_5 rfl ?_
  refine pe_getr f_Z_14 d_Z_writeCells_6 rfl rfl ?_
  refine pe_aload_n d_Z_writeCells_9 rfl ?_
  refine pe_geti f_Z_33 d_Z_writeCells_10 rfl rfl 1 rfl ?_
  refine pe_aload_n d_Z_writeCells_13 rfl ?_
  refine pe_geti f_Z_46 d_Z_writeCells_14 rfl rfl 2 rfl ?_
  refine pe_v2p d_Z_writeCells_17 c_Z_66 i_G_clusterAt s_G_clusterAt rfl rfl (t_G_clusterAt_25 hB (by omega) (by first | exact hB _ _ | exact hB0 _ _ | exact hBt _ _ | exact ⟨by omega, by omega⟩) (by first | exact hB _ _ | exact hB0 _ _ | exact hBt _ _ | exact ⟨by omega, by omega⟩)) (fun z17 hz17 => ?_)
  refine pe_if_ne (t := 43) d_Z_writeCells_20 (by first | exact hB _ _ | exact hB0 _ _ | exact hBt _ _ | exact ⟨by omega, by omega⟩) (fun h20 => ?_) (fun h20 => ?_)
  · skip
    exact J43 (_, _) ⟨by (try dsimp only); omega, hB, (fun b hb => rfl)⟩
  · skip
    refine pe_aload_n d_Z_writeCells_23 rfl ?_
    refine pe_getr f_Z_14 d_Z_writeCells_24 rfl rfl ?_
    refine pe_aload_n d_Z_writeCells_27 rfl ?_
    refine pe_geti f_Z_33 d_Z_writeCells_28 rfl rfl 1 rfl ?_
    refine pe_aload_n d_Z_writeCells_31 rfl ?_
    refine pe_geti f_Z_46 d_Z_writeCells_32 rfl rfl 2 rfl ?_
    refine pe_iconst d_Z_writeCells_35 ?_
    refine pe_isub d_Z_writeCells_36 ?_
    refine pe_bipush d_Z_writeCells_37 ?_
    refine pe_iconst d_Z_writeCells_39 ?_
    refine pe_v4v d_Z_writeCells_40 c_Z_81 i_G_put s_G_put rfl rfl (t_G_put_25 hB (by omega) (by first | exact hB _ _ | exact hB0 _ _ | exact hBt _ _ | exact ⟨by omega, by omega⟩) (by first | exact hB _ _ | exact hB0 _ _ | exact hBt _ _ | exact ⟨by omega, by omega⟩) (by first | exact hB _ _ | exact hB0 _ _ | exact hBt _ _ | exact ⟨by omega, by omega⟩) (by first | exact hB _ _ | exact hB0 _ _ | exact hBt _ _ | exact ⟨by omega, by omega⟩)) (fun σ40 hz40 => ?_)
    obtain ⟨hB, f40⟩ := hz40
    try have u40_0 : σ40 24 1 = σ 24 1 := by first | exact o40 1 (by decide) | exact congrFun (f40 24 (by decide)) 1
    try have u40_1 : σ40 24 2 = σ 24 2 := by first | exact o40 2 (by decide) | exact congrFun (f40 24 (by decide)) 2
    try have u40_2 : σ40 25 2 = σ 25 2 := by first | exact o40 2 (by decide) | exact congrFun (f40 25 (by decide)) 2
    try have u40_3 : σ40 25 3 = σ 25 3 := by first | exact o40 3 (by decide) | exact congrFun (f40 25 (by decide)) 3
    exact J43 (_, _) ⟨by (try dsimp only); omega, hB, (fun b hb => (f40 b (by simp at hb ⊢; try omega)).trans (rfl))⟩
theorem t_Z_write {σ : pe_H} {k : Int} (hB : pe_B σ) (hd : 1 ≤ σ 25 2 ∧ σ 25 2 ≤ 24 ∧ 1 ≤ σ 25 3 ∧ σ 25 3 ≤ 8) (ht : 0 ≤ σ 24 1 ∧ σ 24 1 ≤ 8 ∧ 0 ≤ σ 24 2 ∧ σ 24 2 ≤ 24) (hk : pe_R k) : pe_M m_Z_write [pe_r 24, pe_i k] σ (pe_qv (fun σ' => pe_B σ' ∧ (∀ b, b ∉ [24, 26, 27] → σ' b = σ b) ∧ (0 ≤ σ' 24 1 ∧ σ' 24 1 ≤ 8 ∧ 0 ≤ σ' 24 2 ∧ σ' 24 2 ≤ 24))) := by
  refine pe_in0 (lv := [some (pe_r 24), some (pe_i k), none]) ?_
  have hB0 := hB
  have J50 : ∀ τ : pe_H, (pe_B τ ∧ (∀ b, b ∉ [24, 26, 27] → τ b = σ b) ∧ (0 ≤ τ 24 1 ∧ τ 24 1 ≤ 8 ∧ 0 ≤ τ 24 2 ∧ τ 24 2 ≤ 24)) → pe_G m_Z_write 50 [some (pe_r 24), some (pe_i k), none] [] τ (pe_qv (fun σ' => pe_B σ' ∧ (∀ b, b ∉ [24, 26, 27] → σ' b = σ b) ∧ (0 ≤ σ' 24 1 ∧ σ' 24 1 ≤ 8 ∧ 0 ≤ σ' 24 2 ∧ σ' 24 2 ≤ 24))) := by
    intro τ hI
    obtain ⟨hB, hfr, hX⟩ := hI
    have v_25_2 : τ 25 2 = σ 25 2 := congrFun (hfr 25 (by decide)) 2
    have v_25_3 : τ 25 3 = σ 25 3 := congrFun (hfr 25 (by decide)) 3
    have hBt := hB
    refine pe_aload_n d_Z_write_50 rfl ?_
    refine pe_geti f_Z_46 d_Z_write_51 rfl rfl 2 rfl ?_
    refine pe_iload_n d_Z_write_54 rfl ?_
    refine pe_s1p d_Z_write_55 c_Z_49 z_C_widthOf (t_C_widthOf (by first | exact hB _ _ | exact hB0 _ _ | exact hBt _ _ | exact ⟨by omega, by omega⟩)) (fun z55 hz55 => ?_)
    refine pe_iadd d_Z_write_58 ?_
    refine pe_aload_n d_Z_write_59 rfl ?_
    refine pe_getr f_Z_14 d_Z_write_60 rfl rfl ?_
    refine pe_geti f_Z_53 d_Z_write_63 rfl rfl 2 rfl ?_
    refine pe_icmp_gt (t := 73) d_Z_write_66 (by first | exact hB _ _ | exact hB0 _ _ | exact hBt _ _ | exact ⟨by omega, by omega⟩) (by first | exact hB _ _ | exact hB0 _ _ | exact hBt _ _ | exact ⟨by omega, by omega⟩) (fun h66 => ?_) (fun h66 => ?_)
    · skip
      refine pe_iconst d_Z_write_73 ?_
      refine pe_istore_n d_Z_write_74 ?_
      refine pe_aload_n d_Z_write_75 rfl ?_
      refine pe_iload_n d_Z_write_76 rfl ?_
      refine pe_if_eq (t := 84) d_Z_write_77 (by first | exact hB _ _ | exact hB0 _ _ | exact hBt _ _ | exact ⟨by omega, by omega⟩) (fun h77 => ?_) (fun h77 => ?_)
      · skip
        refine pe_bipush d_Z_write_84 ?_
        refine pe_v1v d_Z_write_86 c_Z_56 i_Z_writeCells s_Z_writeCells rfl rfl (t_Z_writeCells hB (by omega) (by omega) (by first | exact hB _ _ | exact hB0 _ _ | exact hBt _ _ | exact ⟨by omega, by omega⟩)) (fun σ86 hz86 => ?_)
        obtain ⟨hB, f86, x86⟩ := hz86
        try have u86_0 : σ86 24 1 = τ 24 1 := by first | exact o86 1 (by decide) | exact congrFun (f86 24 (by decide)) 1
        try have u86_1 : σ86 24 2 = τ 24 2 := by first | exact o86 2 (by decide) | exact congrFun (f86 24 (by decide)) 2
        try have u86_2 : σ86 25 2 = τ 25 2 := by first | exact o86 2 (by decide) | exact congrFun (f86 25 (by decide)) 2
        try have u86_3 : σ86 25 3 = τ 25 3 := by first | exact o86 3 (by decide) | exact congrFun (f86 25 (by decide)) 3
        refine pe_rv d_Z_write_89 ?_
        exact ⟨hB, (fun b hb => (f86 b (by simp at hb ⊢; try omega)).trans (hfr b (by simp at hb ⊢; try omega))), by omega⟩
      · skip
        refine pe_iload_n d_Z_write_80 rfl ?_
        refine pe_goto (t := 86) d_Z_write_81 ?_
        refine pe_v1v d_Z_write_86 c_Z_56 i_Z_writeCells s_Z_writeCells rfl rfl (t_Z_writeCells hB (by omega) (by omega) (by first | exact hB _ _ | exact hB0 _ _ | exact hBt _ _ | exact ⟨by omega, by omega⟩)) (fun σ86 hz86 => ?_)
        obtain ⟨hB, f86, x86⟩ := hz86
        try have u86_0 : σ86 24 1 = τ 24 1 := by first | exact o86 1 (by decide) | exact congrFun (f86 24 (by decide)) 1
        try have u86_1 : σ86 24 2 = τ 24 2 := by first | exact o86 2 (by decide) | exact congrFun (f86 24 (by decide)) 2
        try have u86_2 : σ86 25 2 = τ 25 2 := by first | exact o86 2 (by decide) | exact congrFun (f86 25 (by decide)) 2
        try have u86_3 : σ86 25 3 = τ 25 3 := by first | exact o86 3 (by decide) | exact congrFun (f86 25 (by decide)) 3
        refine pe_rv d_Z_write_89 ?_
        exact ⟨hB, (fun b hb => (f86 b (by simp at hb ⊢; try omega)).trans (hfr b (by simp at hb ⊢; try omega))), by omega⟩
    · skip
      refine pe_iconst d_Z_write_69 ?_
      refine pe_goto (t := 74) d_Z_write_70 ?_
      refine pe_istore_n d_Z_write_74 ?_
      refine pe_aload_n d_Z_write_75 rfl ?_
      refine pe_iload_n d_Z_write_76 rfl ?_
      refine pe_if_eq (t := 84) d_Z_write_77 (by first | exact hB _ _ | exact hB0 _ _ | exact hBt _ _ | exact ⟨by omega, by omega⟩) (fun h77 => ?_) (fun h77 => ?_)
      · skip
        refine pe_bipush d_Z_write_84 ?_
        refine pe_v1v d_Z_write_86 c_Z_56 i_Z_writeCells s_Z_writeCells rfl rfl (t_Z_writeCells hB (by omega) (by omega) (by first | exact hB _ _ | exact hB0 _ _ | exact hBt _ _ | exact ⟨by omega, by omega⟩)) (fun σ86 hz86 => ?_)
        obtain ⟨hB, f86, x86⟩ := hz86
        try have u86_0 : σ86 24 1 = τ 24 1 := by first | exact o86 1 (by decide) | exact congrFun (f86 24 (by decide)) 1
        try have u86_1 : σ86 24 2 = τ 24 2 := by first | exact o86 2 (by decide) | exact congrFun (f86 24 (by decide)) 2
        try have u86_2 : σ86 25 2 = τ 25 2 := by first | exact o86 2 (by decide) | exact congrFun (f86 25 (by decide)) 2
        try have u86_3 : σ86 25 3 = τ 25 3 := by first | exact o86 3 (by decide) | exact congrFun (f86 25 (by decide)) 3
        refine pe_rv d_Z_write_89 ?_
        exact ⟨hB, (fun b hb => (f86 b (by simp at hb ⊢; try omega)).trans (hfr b (by simp at hb ⊢; try omega))), by omega⟩
      · skip
        refine pe_iload_n d_Z_write_80 rfl ?_
        refine pe_goto (t := 86) d_Z_write_81 ?_
        refine pe_v1v d_Z_write_86 c_Z_56 i_Z_writeCells s_Z_writeCells rfl rfl (t_Z_writeCells hB (by omega) (by omega) (by first | exact hB _ _ | exact hB0 _ _ | exact hBt _ _ | exact ⟨by omega, by omega⟩)) (fun σ86 hz86 => ?_)
        obtain ⟨hB, f86, x86⟩ := hz86
        try have u86_0 : σ86 24 1 = τ 24 1 := by first | exact o86 1 (by decide) | exact congrFun (f86 24 (by decide)) 1
        try have u86_1 : σ86 24 2 = τ 24 2 := by first | exact o86 2 (by decide) | exact congrFun (f86 24 (by decide)) 2
        try have u86_2 : σ86 25 2 = τ 25 2 := by first | exact o86 2 (by decide) | exact congrFun (f86 25 (by decide)) 2
        try have u86_3 : σ86 25 3 = τ 25 3 := by first | exact o86 3 (by decide) | exact congrFun (f86 25 (by decide)) 3
        refine pe_rv d_Z_write_89 ?_
        exact ⟨hB, (fun b hb => (f86 b (by simp at hb ⊢; try omega)).trans (hfr b (by simp at hb ⊢; try omega))), by omega⟩
  have J16 : ∀ τ : pe_H, (pe_B τ ∧ (∀ b, b ∉ [26, 27] → τ b = σ b)) → pe_G m_Z_write 16 [some (pe_r 24), some (pe_i k), none] [] τ (pe_qv (fun σ' => pe_B σ' ∧ (∀ b, b ∉ [24, 26, 27] → σ' b = σ b) ∧ (0 ≤ σ' 24 1 ∧ σ' 24 1 ≤ 8 ∧ 0 ≤ σ' 24 2 ∧ σ' 24 2 ≤ 24))) := by
    intro τ hI
    obtain ⟨hB, hfr⟩ := hI
    have v_24_1 : τ 24 1 = σ 24 1 := congrFun (hfr 24 (by decide)) 1
    have v_24_2 : τ 24 2 = σ 24 2 := congrFun (hfr 24 (by decide)) 2
    have v_25_2 : τ 25 2 = σ 25 2 := congrFun (hfr 25 (by decide)) 2
    have v_25_3 : τ 25 3 = σ 25 3 := congrFun (hfr 25 (by decide)) 3
    have hBt := hB
    refine pe_aload_n d_Z_write_16 rfl ?_
    refine pe_geti f_Z_29 d_Z_write_17 rfl rfl 3 rfl ?_
    refine pe_if_eq (t := 50) d_Z_write_20 (by first | exact hB _ _ | exact hB0 _ _ | exact hBt _ _ | exact ⟨by omega, by omega⟩) (fun h20 => ?_) (fun h20 => ?_)
    · skip
      exact J50 _ ⟨hB, (fun b hb => hfr b (by simp at hb ⊢; try omega)), by omega⟩
    · skip
      refine pe_aload_n d_Z_write_23 rfl ?_
      refine pe_aload_n d_Z_write_24 rfl ?_
      refine pe_geti f_Z_33 d_Z_write_25 rfl rfl 1 rfl ?_
      refine pe_iconst d_Z_write_28 ?_
      refine pe_iadd d_Z_write_29 ?_
      refine pe_aload_n d_Z_write_30 rfl ?_
      refine pe_getr f_Z_14 d_Z_write_31 rfl rfl ?_
      refine pe_geti f_Z_37 d_Z_write_34 rfl rfl 3 rfl ?_
      refine pe_iconst d_Z_write_37 ?_
      refine pe_isub d_Z_write_38 ?_
      refine pe_minT c_Z_40 d_Z_write_39 (by first | exact hB _ _ | exact hB0 _ _ | exact hBt _ _ | exact ⟨by omega, by omega⟩) (by first | exact hB _ _ | exact hB0 _ _ | exact hBt _ _ | exact ⟨by omega, by omega⟩) (fun z39 hz39 => ?_)
      refine pe_putiT f_Z_33 g_10_1 d_Z_write_42 rfl rfl 1 rfl hB (by first | exact hB _ _ | exact hB0 _ _ | exact hBt _ _ | exact ⟨by omega, by omega⟩) (fun σ42 hB e42 o42 f42 => ?_)
      try have u42_0 : σ42 24 1 = τ 24 1 := by first | exact o42 1 (by decide) | exact congrFun (f42 24 (by decide)) 1
      try have u42_1 : σ42 24 2 = τ 24 2 := by first | exact o42 2 (by decide) | exact congrFun (f42 24 (by decide)) 2
      try have u42_2 : σ42 25 2 = τ 25 2 := by first | exact o42 2 (by decide) | exact congrFun (f42 25 (by decide)) 2
      try have u42_3 : σ42 25 3 = τ 25 3 := by first | exact o42 3 (by decide) | exact congrFun (f42 25 (by decide)) 3
      refine pe_aload_n d_Z_write_45 rfl ?_
      refine pe_iconst d_Z_write_46 ?_
      refine pe_putiT f_Z_46 g_10_2 d_Z_write_47 rfl rfl 2 rfl hB (by first | exact hB _ _ | exact hB0 _ _ | exact hBt _ _ | exact ⟨by omega, by omega⟩) (fun σ47 hB e47 o47 f47 => ?_)
      try have u47_0 : σ47 24 1 = σ42 24 1 := by first | exact o47 1 (by decide) | exact congrFun (f47 24 (by decide)) 1
      try have u47_1 : σ47 24 2 = σ42 24 2 := by first | exact o47 2 (by decide) | exact congrFun (f47 24 (by decide)) 2
      try have u47_2 : σ47 25 2 = σ42 25 2 := by first | exact o47 2 (by decide) | exact congrFun (f47 25 (by decide)) 2
      try have u47_3 : σ47 25 3 = σ42 25 3 := by first | exact o47 3 (by decide) | exact congrFun (f47 25 (by decide)) 3
      exact J50 _ ⟨hB, (fun b hb => (f47 b (by simp at hb ⊢; try omega)).trans ((f42 b (by simp at hb ⊢; try omega)).trans (hfr b (by simp at hb ⊢; try omega)))), by omega⟩
  refine pe_iload_n d_Z_write_0 rfl ?_
  refine pe_s1p d_Z_write_1 c_Z_20 z_C_isMark (t_C_isMark (by first | exact hB _ _ | exact hB0 _ _ | exact hBt _ _ | exact ⟨by omega, by omega⟩)) (fun z1 hz1 => ?_)
  refine pe_if_eq (t := 16) d_Z_write_4 (by first | exact hB _ _ | exact hB0 _ _ | exact hBt _ _ | exact ⟨by omega, by omega⟩) (fun h4 => ?_) (fun h4 => ?_)
  · skip
    exact J16 _ ⟨hB, (fun b hb => rfl)⟩
  · skip
    refine pe_aload_n d_Z_write_7 rfl ?_
    refine pe_iload_n d_Z_write_8 rfl ?_
    refine pe_v1i d_Z_write_9 c_Z_26 i_Z_joins s_Z_joins rfl rfl (t_Z_joins hB (by omega) (by omega) (by first | exact hB _ _ | exact hB0 _ _ | exact hBt _ _ | exact ⟨by omega, by omega⟩)) (fun z9 σ9 hz9 => ?_)
    obtain ⟨hB, f9, x9⟩ := hz9
    try have u9_0 : σ9 24 1 = σ 24 1 := by first | exact o9 1 (by decide) | exact congrFun (f9 24 (by decide)) 1
    try have u9_1 : σ9 24 2 = σ 24 2 := by first | exact o9 2 (by decide) | exact congrFun (f9 24 (by decide)) 2
    try have u9_2 : σ9 25 2 = σ 25 2 := by first | exact o9 2 (by decide) | exact congrFun (f9 25 (by decide)) 2
    try have u9_3 : σ9 25 3 = σ 25 3 := by first | exact o9 3 (by decide) | exact congrFun (f9 25 (by decide)) 3
    refine pe_if_eq (t := 16) d_Z_write_12 (by first | exact hB _ _ | exact hB0 _ _ | exact hBt _ _ | exact ⟨by omega, by omega⟩) (fun h12 => ?_) (fun h12 => ?_)
    · skip
      exact J16 _ ⟨hB, (fun b hb => (f9 b (by simp at hb ⊢; try omega)).trans (rfl))⟩
    · skip
      refine pe_rv d_Z_write_15 ?_
      exact ⟨hB, (fun b hb => (f9 b (by simp at hb ⊢; try omega)).trans (rfl)), by omega⟩
