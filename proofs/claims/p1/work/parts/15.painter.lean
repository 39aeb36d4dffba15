theorem t_Q_byteAt {σ : pe_H} {k : Int} (hB : pe_B σ) (hq : 0 ≤ σ 23 2 ∧ σ 23 2 ≤ 2048) (hk : pe_R k) : pe_M m_Q_byteAt [pe_r 23, pe_i k] σ (pe_qp σ (fun z => pe_R z)) := by
  refine pe_in0 (lv := [some (pe_r 23), some (pe_i k)]) ?_
  have hB0 := hB
  refine pe_iload_n d_Q_byteAt_0 rfl ?_
  refine pe_if_lt (t := 21) d_Q_byteAt_1 (by first | exact hB _ _ | exact hB0 _ _ | exact hBt _ _ | exact ⟨by omega, by omega⟩) (fun h1 => ?_) (fun h1 => ?_)
  · skip
    refine pe_iconst d_Q_byteAt_21 ?_
    refine pe_ri d_Q_byteAt_22 ?_
    exact ⟨rfl, by first | exact hB _ _ | exact ⟨by omega, by omega⟩⟩
  · skip
    refine pe_iload_n d_Q_byteAt_4 rfl ?_
    refine pe_aload_n d_Q_byteAt_5 rfl ?_
    refine pe_geti f_Q_24 d_Q_byteAt_6 rfl rfl 2 rfl ?_
    refine pe_icmp_ge (t := 21) d_Q_byteAt_9 (by first | exact hB _ _ | exact hB0 _ _ | exact hBt _ _ | exact ⟨by omega, by omega⟩) (by first | exact hB _ _ | exact hB0 _ _ | exact hBt _ _ | exact ⟨by omega, by omega⟩) (fun h9 => ?_) (fun h9 => ?_)
    · skip
      refine pe_iconst d_Q_byteAt_21 ?_
      refine pe_ri d_Q_byteAt_22 ?_
      exact ⟨rfl, by first | exact hB _ _ | exact ⟨by omega, by omega⟩⟩
    · skip
      refine pe_aload_n d_Q_byteAt_12 rfl ?_
      refine pe_getr f_Q_9 d_Q_byteAt_13 rfl rfl ?_
      refine pe_iload_n d_Q_byteAt_16 rfl ?_
      refine pe_iald d_Q_byteAt_17 rfl (by omega) (by omega) ?_
      refine pe_goto (t := 22) d_Q_byteAt_18 ?_
      refine pe_ri d_Q_byteAt_22 ?_
      exact ⟨rfl, by first | exact hB _ _ | exact ⟨by omega, by omega⟩⟩
theorem t_Q_put {σ : pe_H} {k : Int} (hB : pe_B σ) (hq : 0 ≤ σ 23 2 ∧ σ 23 2 ≤ 2048) (hk : pe_R k) : pe_M m_Q_put [pe_r 23, pe_i k] σ (pe_qv (fun σ' => pe_B σ' ∧ (∀ b, b ∉ [23, 28] → σ' b = σ b) ∧ (0 ≤ σ' 23 2 ∧ σ' 23 2 ≤ 2048))) := by
  refine pe_in0 (lv := [some (pe_r 23), some (pe_i k)]) ?_
  have hB0 := hB
  refine pe_aload_n d_Q_put_0 rfl ?_
  refine pe_geti f_Q_24 d_Q_put_1 rfl rfl 2 rfl ?_
  refine pe_sipush d_Q_put_4 ?_
  refine pe_icmp_ge (t := 30) d_Q_put_7 (by first | exact hB _ _ | exact hB0 _ _ | exact hBt _ _ | exact ⟨by omega, by omega⟩) (by first | exact hB _ _ | exact hB0 _ _ | exact hBt _ _ | exact ⟨by omega, by omega⟩) (fun h7 => ?_) (fun h7 => ?_)
  · skip
    refine pe_rv d_Q_put_30 ?_
    exact ⟨hB, (fun b hb => rfl), by omega⟩
  · skip
    refine pe_aload_n d_Q_put_10 rfl ?_
    refine pe_getr f_Q_9 d_Q_put_11 rfl rfl ?_
    refine pe_aload_n d_Q_put_14 rfl ?_
    refine pe_geti f_Q_24 d_Q_put_15 rfl rfl 2 rfl ?_
    refine pe_iload_n d_Q_put_18 rfl ?_
    refine pe_iastT d_Q_put_19 rfl (by omega) (by omega) hB (by first | exact hB _ _ | exact hB0 _ _ | exact hBt _ _ | exact ⟨by omega, by omega⟩) (fun σ19 hB e19 o19 f19 => ?_)
    try have u19_0 : σ19 24 1 = σ 24 1 := by first | exact o19 1 (by decide) | exact congrFun (f19 24 (by decide)) 1
    try have u19_1 : σ19 24 2 = σ 24 2 := by first | exact o19 2 (by decide) | exact congrFun (f19 24 (by decide)) 2
    try have u19_2 : σ19 25 2 = σ 25 2 := by first | exact o19 2 (by decide) | exact congrFun (f19 25 (by decide)) 2
    try have u19_3 : σ19 25 3 = σ 25 3 := by first | exact o19 3 (by decide) | exact congrFun (f19 25 (by decide)) 3
    try have u19_4 : σ19 23 2 = σ 23 2 := by first | exact o19 2 (by decide) | exact congrFun (f19 23 (by decide)) 2
    refine pe_aload_n d_Q_put_20 rfl ?_
    refine pe_dup d_Q_put_21 ?_
    refine pe_geti f_Q_24 d_Q_put_22 rfl rfl 2 rfl ?_
    refine pe_iconst d_Q_put_25 ?_
    refine pe_iadd d_Q_put_26 ?_
    refine pe_putiT f_Q_24 g_9_2 d_Q_put_27 rfl rfl 2 rfl hB (by first | exact hB _ _ | exact hB0 _ _ | exact hBt _ _ | exact ⟨by omega, by omega⟩) (fun σ27 hB e27 o27 f27 => ?_)
    try have u27_0 : σ27 24 1 = σ19 24 1 := by first | exact o27 1 (by decide) | exact congrFun (f27 24 (by decide)) 1
    try have u27_1 : σ27 24 2 = σ19 24 2 := by first | exact o27 2 (by decide) | exact congrFun (f27 24 (by decide)) 2
    try have u27_2 : σ27 25 2 = σ19 25 2 := by first | exact o27 2 (by decide) | exact congrFun (f27 25 (by decide)) 2
    try have u27_3 : σ27 25 3 = σ19 25 3 := by first | exact o27 3 (by decide) | exact congrFun (f27 25 (by decide)) 3
    try have u27_4 : σ27 23 2 = σ19 23 2 := by first | exact o27 2 (by decide) | exact congrFun (f27 23 (by decide)) 2
    refine pe_rv d_Q_put_30 ?_
    exact ⟨hB, (fun b hb => (f27 b (by simp at hb ⊢; try omega)).trans ((f19 b (by simp at hb ⊢; try omega)).trans (rfl))), by omega⟩
theorem t_Q_putNumber {σ : pe_H} {k : Int} (hB : pe_B σ) (hq : 0 ≤ σ 23 2 ∧ σ 23 2 ≤ 2048) (hk : pe_R k) : pe_M m_Q_putNumber [pe_r 23, pe_i k] σ (pe_qv (fun σ' => pe_B σ' ∧ (∀ b, b ∉ [23, 28] → σ' b = σ b) ∧ (0 ≤ σ' 23 2 ∧ σ' 23 2 ≤ 2048))) := by
  refine pe_in0 (lv := [some (pe_r 23), some (pe_i k)]) ?_
  have hB0 := hB
  refine pe_iload_n d_Q_putNumber_0 rfl ?_
  refine pe_bipush d_Q_putNumber_1 ?_
  refine pe_icmp_lt (t := 17) d_Q_putNumber_3 (by first | exact hB _ _ | exact hB0 _ _ | exact hBt _ _ | exact ⟨by omega, by omega⟩) (by first | exact hB _ _ | exact hB0 _ _ | exact hBt _ _ | exact ⟨by omega, by omega⟩) (fun h3 => ?_) (fun h3 => ?_)
  · skip
    refine pe_iload_n d_Q_putNumber_17 rfl ?_
    refine pe_if_lt (t := 32) d_Q_putNumber_18 (by first | exact hB _ _ | exact hB0 _ _ | exact hBt _ _ | exact ⟨by omega, by omega⟩) (fun h18 => ?_) (fun h18 => ?_)
    · skip
      refine pe_rv d_Q_putNumber_32 ?_
      exact ⟨hB, (fun b hb => rfl), by omega⟩
    · skip
      refine pe_aload_n d_Q_putNumber_21 rfl ?_
      refine pe_bipush d_Q_putNumber_22 ?_
      refine pe_iload_n d_Q_putNumber_24 rfl ?_
      refine pe_bipush d_Q_putNumber_25 ?_
      refine pe_irem d_Q_putNumber_27 (by first | exact hB _ _ | exact hB0 _ _ | exact hBt _ _ | exact ⟨by omega, by omega⟩) (by omega) (by first | exact hB _ _ | exact hB0 _ _ | exact hBt _ _ | exact ⟨by omega, by omega⟩) ?_
      refine pe_iadd d_Q_putNumber_28 ?_
      refine pe_any (fun v29 hv29 => ?_)
      refine pe_v1v d_Q_putNumber_29 c_Q_126 i_Q_put s_Q_put rfl rfl (t_Q_put hB (by omega) (by first | exact hB _ _ | exact hB0 _ _ | exact hBt _ _ | exact ⟨by omega, by omega⟩)) (fun σ29 hz29 => ?_)
      obtain ⟨hB, f29, x29⟩ := hz29
      try have u29_0 : σ29 24 1 = σ 24 1 := by first | exact o29 1 (by decide) | exact congrFun (f29 24 (by decide)) 1
      try have u29_1 : σ29 24 2 = σ 24 2 := by first | exact o29 2 (by decide) | exact congrFun (f29 24 (by decide)) 2
      try have u29_2 : σ29 25 2 = σ 25 2 := by first | exact o29 2 (by decide) | exact congrFun (f29 25 (by decide)) 2
      try have u29_3 : σ29 25 3 = σ 25 3 := by first | exact o29 3 (by decide) | exact congrFun (f29 25 (by decide)) 3
      try have u29_4 : σ29 23 2 = σ 23 2 := by first | exact o29 2 (by decide) | exact congrFun (f29 23 (by decide)) 2
      refine pe_rv d_Q_putNumber_32 ?_
      exact ⟨hB, (fun b hb => (f29 b (by simp at hb ⊢; try omega)).trans (rfl)), by omega⟩
  · skip
    refine pe_aload_n d_Q_putNumber_6 rfl ?_
    refine pe_bipush d_Q_putNumber_7 ?_
    refine pe_iload_n d_Q_putNumber_9 rfl ?_
    refine pe_bipush d_Q_putNumber_10 ?_
    refine pe_idiv d_Q_putNumber_12 (by first | exact hB _ _ | exact hB0 _ _ | exact hBt _ _ | exact ⟨by omega, by omega⟩) (by omega) (by first | exact hB _ _ | exact hB0 _ _ | exact hBt _ _ | exact ⟨by omega, by omega⟩) ?_
    refine pe_iadd d_Q_putNumber_13 ?_
    refine pe_any (fun v14 hv14 => ?_)
    refine pe_v1v d_Q_putNumber_14 c_Q_126 i_Q_put s_Q_put rfl rfl (t_Q_put hB (by omega) (by first | exact hB _ _ | exact hB0 _ _ | exact hBt _ _ | exact ⟨by omega, by omega⟩)) (fun σ14 hz14 => ?_)
    obtain ⟨hB, f14, x14⟩ := hz14
    try have u14_0 : σ14 24 1 = σ 24 1 := by first | exact o14 1 (by decide) | exact congrFun (f14 24 (by decide)) 1
    try have u14_1 : σ14 24 2 = σ 24 2 := by first | exact o14 2 (by decide) | exact congrFun (f14 24 (by decide)) 2
    try have u14_2 : σ14 25 2 = σ 25 2 := by first | exact o14 2 (by decide) | exact congrFun (f14 25 (by decide)) 2
    try have u14_3 : σ14 25 3 = σ 25 3 := by first | exact o14 3 (by decide) | exact congrFun (f14 25 (by decide)) 3
    try have u14_4 : σ14 23 2 = σ 23 2 := by first | exact o14 2 (by decide) | exact congrFun (f14 23 (by decide)) 2
    refine pe_iload_n d_Q_putNumber_17 rfl ?_
    refine pe_if_lt (t := 32) d_Q_putNumber_18 (by first | exact hB _ _ | exact hB0 _ _ | exact hBt _ _ | exact ⟨by omega, by omega⟩) (fun h18 => ?_) (fun h18 => ?_)
    · skip
      refine pe_rv d_Q_putNumber_32 ?_
      exact ⟨hB, (fun b hb => (f14 b (by simp at hb ⊢; try omega)).trans (rfl)), by omega⟩
    · skip
      refine pe_aload_n d_Q_putNumber_21 rfl ?_
      refine pe_bipush d_Q_putNumber_22 ?_
      refine pe_iload_n d_Q_putNumber_24 rfl ?_
      refine pe_bipush d_Q_putNumber_25 ?_
      refine pe_irem d_Q_putNumber_27 (by first | exact hB _ _ | exact hB0 _ _ | exact hBt _ _ | exact ⟨by omega, by omega⟩) (by omega) (by first | exact hB _ _ | exact hB0 _ _ | exact hBt _ _ | exact ⟨by omega, by omega⟩) ?_
      refine pe_iadd d_Q_putNumber_28 ?_
      refine pe_any (fun v29 hv29 => ?_)
      refine pe_v1v d_Q_putNumber_29 c_Q_126 i_Q_put s_Q_put rfl rfl (t_Q_put hB (by omega) (by first | exact hB _ _ | exact hB0 _ _ | exact hBt _ _ | exact ⟨by omega, by omega⟩)) (fun σ29 hz29 => ?_)
      obtain ⟨hB, f29, x29⟩ := hz29
      try have u29_0 : σ29 24 1 = σ14 24 1 := by first | exact o29 1 (by decide) | exact congrFun (f29 24 (by decide)) 1
      try have u29_1 : σ29 24 2 = σ14 24 2 := by first | exact o29 2 (by decide) | exact congrFun (f29 24 (by decide)) 2
      try have u29_2 : σ29 25 2 = σ14 25 2 := by first | exact o29 2 (by decide) | exact congrFun (f29 25 (by decide)) 2
      try have u29_3 : σ29 25 3 = σ14 25 3 := by first | exact o29 3 (by decide) | exact congrFun (f29 25 (by decide)) 3
      try have u29_4 : σ29 23 2 = σ14 23 2 := by first | exact o29 2 (by decide) | exact congrFun (f29 23 (by decide)) 2
      refine pe_rv d_Q_putNumber_32 ?_
      exact ⟨hB, (fun b hb => (f29 b (by simp at hb ⊢; try omega)).trans ((f14 b (by simp at hb ⊢; try omega)).trans (rfl))), by omega⟩
theorem t_Q_sendSequence {σ : pe_H} {a c k : Int} (hB : pe_B σ) (hq : 0 ≤ σ 23 2 ∧ σ 23 2 ≤ 2048) (ha : pe_R a) (hc : pe_R c) (hk : pe_R k) : pe_M m_Q_sendSequence [pe_r 23, pe_i a, pe_i c, pe_i k] σ (pe_qv (fun σ' => pe_B σ' ∧ (∀ b, b ∉ [23, 28] → σ' b = σ b) ∧ (0 ≤ σ' 23 2 ∧ σ' 23 2 ≤ 2048))) := by
  refine pe_in0 (lv := [some (pe_r 23), some (pe_i a), some (pe_i c), some (pe_i k)]) ?_
  have hB0 := hB
  refine pe_aload_n d_Q_sendSequence_0 rfl ?_
  refine pe_bipush d_Q_sendSequence_1 ?_
  refine pe_any (fun v3 hv3 => ?_)
  refine pe_v1v d_Q_sendSequence_3 c_Q_126 i_Q_put s_Q_put rfl rfl (t_Q_put hB (by omega) (by first | exact hB _ _ | exact hB0 _ _ | exact hBt _ _ | exact ⟨by omega, by omega⟩)) (fun σ3 hz3 => ?_)
  obtain ⟨hB, f3, x3⟩ := hz3
  try have u3_0 : σ3 24 1 = σ 24 1 := by first | exact o3 1 (by decide) | exact congrFun (f3 24 (by decide)) 1
  try have u3_1 : σ3 24 2 = σ 24 2 := by first | exact o3 2 (by decide) | exact congrFun (f3 24 (by decide)) 2
  try have u3_2 : σ3 25 2 = σ 25 2 := by first | exact o3 2 (by decide) | exact congrFun (f3 25 (by decide)) 2
  try have u3_3 : σ3 25 3 = σ 25 3 := by first | exact o3 3 (by decide) | exact congrFun (f3 25 (by decide)) 3
  try have u3_4 : σ3 23 2 = σ 23 2 := by first | exact o3 2 (by decide) | exact congrFun (f3 23 (by decide)) 2
  refine pe_aload_n d_Q_sendSequence_6 rfl ?_
  refine pe_bipush d_Q_sendSequence_7 ?_
  refine pe_any (fun v9 hv9 => ?_)
  refine pe_v1v d_Q_sendSequence_9 c_Q_126 i_Q_put s_Q_put rfl rfl (t_Q_put hB (by omega) (by first | exact hB _ _ | exact hB0 _ _ | exact hBt _ _ | exact ⟨by omega, by omega⟩)) (fun σ9 hz9 => ?_)
  obtain ⟨hB, f9, x9⟩ := hz9
  try have u9_0 : σ9 24 1 = σ3 24 1 := by first | exact o9 1 (by decide) | exact congrFun (f9 24 (by decide)) 1
  try have u9_1 : σ9 24 2 = σ3 24 2 := by first | exact o9 2 (by decide) | exact congrFun (f9 24 (by decide)) 2
  try have u9_2 : σ9 25 2 = σ3 25 2 := by first | exact o9 2 (by decide) | exact congrFun (f9 25 (by decide)) 2
  try have u9_3 : σ9 25 3 = σ3 25 3 := by first | exact o9 3 (by decide) | exact congrFun (f9 25 (by decide)) 3
  try have u9_4 : σ9 23 2 = σ3 23 2 := by first | exact o9 2 (by decide) | exact congrFun (f9 23 (by decide)) 2
  refine pe_aload_n d_Q_sendSequence_12 rfl ?_
  refine pe_iload_n d_Q_sendSequence_13 rfl ?_
  refine pe_v1v d_Q_sendSequence_14 c_Q_129 i_Q_putNumber s_Q_putNumber rfl rfl (t_Q_putNumber hB (by omega) (by first | exact hB _ _ | exact hB0 _ _ | exact hBt _ _ | exact ⟨by omega, by omega⟩)) (fun σ14 hz14 => ?_)
  obtain ⟨hB, f14, x14⟩ := hz14
  try have u14_0 : σ14 24 1 = σ9 24 1 := by first | exact o14 1 (by decide) | exact congrFun (f14 24 (by decide)) 1
  try have u14_1 : σ14 24 2 = σ9 24 2 := by first | exact o14 2 (by decide) | exact congrFun (f14 24 (by decide)) 2
  try have u14_2 : σ14 25 2 = σ9 25 2 := by first | exact o14 2 (by decide) | exact congrFun (f14 25 (by decide)) 2
  try have u14_3 : σ14 25 3 = σ9 25 3 := by first | exact o14 3 (by decide) | exact congrFun (f14 25 (by decide)) 3
  try have u14_4 : σ14 23 2 = σ9 23 2 := by first | exact o14 2 (by decide) | exact congrFun (f14 23 (by decide)) 2
  refine pe_iload_n d_Q_sendSequence_17 rfl ?_
  refine pe_iconst d_Q_sendSequence_18 ?_
  refine pe_icmp_eq (t := 33) d_Q_sendSequence_19 (by first | exact hB _ _ | exact hB0 _ _ | exact hBt _ _ | exact ⟨by omega, by omega⟩) (by first | exact hB _ _ | exact hB0 _ _ | exact hBt _ _ | exact ⟨by omega, by omega⟩) (fun h19 => ?_) (fun h19 => ?_)
  · skip
    refine pe_aload_n d_Q_sendSequence_33 rfl ?_
    refine pe_iload_n d_Q_sendSequence_34 rfl ?_
    refine pe_any (fun v35 hv35 => ?_)
    refine pe_v1v d_Q_sendSequence_35 c_Q_126 i_Q_put s_Q_put rfl rfl (t_Q_put hB (by omega) (by first | exact hB _ _ | exact hB0 _ _ | exact hBt _ _ | exact ⟨by omega, by omega⟩)) (fun σ35 hz35 => ?_)
    obtain ⟨hB, f35, x35⟩ := hz35
    try have u35_0 : σ35 24 1 = σ14 24 1 := by first | exact o35 1 (by decide) | exact congrFun (f35 24 (by decide)) 1
    try have u35_1 : σ35 24 2 = σ14 24 2 := by first | exact o35 2 (by decide) | exact congrFun (f35 24 (by decide)) 2
    try have u35_2 : σ35 25 2 = σ14 25 2 := by first | exact o35 2 (by decide) | exact congrFun (f35 25 (by decide)) 2
    try have u35_3 : σ35 25 3 = σ14 25 3 := by first | exact o35 3 (by decide) | exact congrFun (f35 25 (by decide)) 3
    try have u35_4 : σ35 23 2 = σ14 23 2 := by first | exact o35 2 (by decide) | exact congrFun (f35 23 (by decide)) 2
    refine pe_rv d_Q_sendSequence_38 ?_
    exact ⟨hB, (fun b hb => (f35 b (by simp at hb ⊢; try omega)).trans ((f14 b (by simp at hb ⊢; try omega)).trans ((f9 b (by simp at hb ⊢; try omega)).trans ((f3 b (by simp at hb ⊢; try omega)).trans (rfl))))), by omega⟩
  · skip
    refine pe_aload_n d_Q_sendSequence_22 rfl ?_
    refine pe_bipush d_Q_sendSequence_23 ?_
    refine pe_any (fun v25 hv25 => ?_)
    refine pe_v1v d_Q_sendSequence_25 c_Q_126 i_Q_put s_Q_put rfl rfl (t_Q_put hB (by omega) (by first | exact hB _ _ | exact hB0 _ _ | exact hBt _ _ | exact ⟨by omega, by omega⟩)) (fun σ25 hz25 => ?_)
    obtain ⟨hB, f25, x25⟩ := hz25
    try have u25_0 : σ25 24 1 = σ14 24 1 := by first | exact o25 1 (by decide) | exact congrFun (f25 24 (by decide)) 1
    try have u25_1 : σ25 24 2 = σ14 24 2 := by first | exact o25 2 (by decide) | exact congrFun (f25 24 (by decide)) 2
    try have u25_2 : σ25 25 2 = σ14 25 2 := by first | exact o25 2 (by decide) | exact congrFun (f25 25 (by decide)) 2
    try have u25_3 : σ25 25 3 = σ14 25 3 := by first | exact o25 3 (by decide) | exact congrFun (f25 25 (by decide)) 3
    try have u25_4 : σ25 23 2 = σ14 23 2 := by first | exact o25 2 (by decide) | exact congrFun (f25 23 (by decide)) 2
    refine pe_aload_n d_Q_sendSequence_28 rfl ?_
    refine pe_iload_n d_Q_sendSequence_29 rfl ?_
    refine pe_v1v d_Q_sendSequence_30 c_Q_129 i_Q_putNumber s_Q_putNumber rfl rfl (t_Q_putNumber hB (by omega) (by first | exact hB _ _ | exact hB0 _ _ | exact hBt _ _ | exact ⟨by omega, by omega⟩)) (fun σ30 hz30 => ?_)
    obtain ⟨hB, f30, x30⟩ := hz30
    try have u30_0 : σ30 24 1 = σ25 24 1 := by first | exact o30 1 (by decide) | exact congrFun (f30 24 (by decide)) 1
    try have u30_1 : σ30 24 2 = σ25 24 2 := by first | exact o30 2 (by decide) | exact congrFun (f30 24 (by decide)) 2
    try have u30_2 : σ30 25 2 = σ25 25 2 := by first | exact o30 2 (by decide) | exact congrFun (f30 25 (by decide)) 2
    try have u30_3 : σ30 25 3 = σ25 25 3 := by first | exact o30 3 (by decide) | exact congrFun (f30 25 (by decide)) 3
    try have u30_4 : σ30 23 2 = σ25 23 2 := by first | exact o30 2 (by decide) | exact congrFun (f30 23 (by decide)) 2
    refine pe_aload_n d_Q_sendSequence_33 rfl ?_
    refine pe_iload_n d_Q_sendSequence_34 rfl ?_
    refine pe_any (fun v35 hv35 => ?_)
    refine pe_v1v d_Q_sendSequence_35 c_Q_126 i_Q_put s_Q_put rfl rfl (t_Q_put hB (by omega) (by first | exact hB _ _ | exact hB0 _ _ | exact hBt _ _ | exact ⟨by omega, by omega⟩)) (fun σ35 hz35 => ?_)
    obtain ⟨hB, f35, x35⟩ := hz35
    try have u35_0 : σ35 24 1 = σ30 24 1 := by first | exact o35 1 (by decide) | exact congrFun (f35 24 (by decide)) 1
    try have u35_1 : σ35 24 2 = σ30 24 2 := by first | exact o35 2 (by decide) | exact congrFun (f35 24 (by decide)) 2
    try have u35_2 : σ35 25 2 = σ30 25 2 := by first | exact o35 2 (by decide) | exact congrFun (f35 25 (by decide)) 2
    try have u35_3 : σ35 25 3 = σ30 25 3 := by first | exact o35 3 (by decide) | exact congrFun (f35 25 (by decide)) 3
    try have u35_4 : σ35 23 2 = σ30 23 2 := by first | exact o35 2 (by decide) | exact congrFun (f35 23 (by decide)) 2
    refine pe_rv d_Q_sendSequence_38 ?_
    exact ⟨hB, (fun b hb => (f35 b (by simp at hb ⊢; try omega)).trans ((f30 b (by simp at hb ⊢; try omega)).trans ((f25 b (by simp at hb ⊢; try omega)).trans ((f14 b (by simp at hb ⊢; try omega)).trans ((f9 b (by simp at hb ⊢; try omega)).trans ((f3 b (by simp at hb ⊢; try omega)).trans (rfl))))))), by omega⟩
theorem t_Q_sendLook {σ : pe_H} {k : Int} (hB : pe_B σ) (hd : 1 ≤ σ 25 2 ∧ σ 25 2 ≤ 24 ∧ 1 ≤ σ 25 3 ∧ σ 25 3 ≤ 8) (ht : 0 ≤ σ 24 1 ∧ σ 24 1 ≤ 8 ∧ 0 ≤ σ 24 2 ∧ σ 24 2 ≤ 24) (hq : 0 ≤ σ 23 2 ∧ σ 23 2 ≤ 2048) (hk : pe_R k) : pe_M m_Q_sendLook [pe_r 23, pe_i k] σ (pe_qv (fun σ' => pe_B σ' ∧ (∀ b, b ∉ [23, 24, 28] → σ' b = σ b) ∧ (0 ≤ σ' 24 1 ∧ σ' 24 1 ≤ 8 ∧ 0 ≤ σ' 24 2 ∧ σ' 24 2 ≤ 24 ∧ 0 ≤ σ' 23 2 ∧ σ' 23 2 ≤ 2048))) := by
  refine pe_in0 (lv := [some (pe_r 23), some (pe_i k), none]) ?_
  have hB0 := hB
  refine pe_iload_n d_Q_sendLook_0 rfl ?_
  refine pe_iconst d_Q_sendLook_1 ?_
  refine pe_icmp_ne (t := 10) d_Q_sendLook_2 (by first | exact hB _ _ | exact hB0 _ _ | exact hBt _ _ | exact ⟨by omega, by omega⟩) (by first | exact hB _ _ | exact hB0 _ _ | exact hBt _ _ | exact ⟨by omega, by omega⟩) (fun h2 => ?_) (fun h2 => ?_)
  · skip
    refine pe_iload_n d_Q_sendLook_10 rfl ?_
    refine pe_iconst d_Q_sendLook_11 ?_
    refine pe_icmp_ne (t := 19) d_Q_sendLook_12 (by first | exact hB _ _ | exact hB0 _ _ | exact hBt _ _ | exact ⟨by omega, by omega⟩) (by first | exact hB _ _ | exact hB0 _ _ | exact hBt _ _ | exact ⟨by omega, by omega⟩) (fun h12 => ?_) (fun h12 => ?_)
    · skip
      refine pe_iconst d_Q_sendLook_19 ?_
      refine pe_istore_n d_Q_sendLook_20 ?_
      refine pe_aload_n d_Q_sendLook_21 rfl ?_
      refine pe_iconst d_Q_sendLook_22 ?_
      refine pe_iload_n d_Q_sendLook_23 rfl ?_
      refine pe_bipush d_Q_sendLook_24 ?_
      refine pe_v3v d_Q_sendLook_26 c_Q_32 i_Q_sendSequence s_Q_sendSequence rfl rfl (t_Q_sendSequence hB (by omega) (by first | exact hB _ _ | exact hB0 _ _ | exact hBt _ _ | exact ⟨by omega, by omega⟩) (by first | exact hB _ _ | exact hB0 _ _ | exact hBt _ _ | exact ⟨by omega, by omega⟩) (by first | exact hB _ _ | exact hB0 _ _ | exact hBt _ _ | exact ⟨by omega, by omega⟩)) (fun σ26 hz26 => ?_)
      obtain ⟨hB, f26, x26⟩ := hz26
      try have u26_0 : σ26 24 1 = σ 24 1 := by first | exact o26 1 (by decide) | exact congrFun (f26 24 (by decide)) 1
      try have u26_1 : σ26 24 2 = σ 24 2 := by first | exact o26 2 (by decide) | exact congrFun (f26 24 (by decide)) 2
      try have u26_2 : σ26 25 2 = σ 25 2 := by first | exact o26 2 (by decide) | exact congrFun (f26 25 (by decide)) 2
      try have u26_3 : σ26 25 3 = σ 25 3 := by first | exact o26 3 (by decide) | exact congrFun (f26 25 (by decide)) 3
      try have u26_4 : σ26 23 2 = σ 23 2 := by first | exact o26 2 (by decide) | exact congrFun (f26 23 (by decide)) 2
      refine pe_aload_n d_Q_sendLook_29 rfl ?_
      refine pe_getr f_Q_20 d_Q_sendLook_30 rfl rfl ?_
      refine pe_iload_n d_Q_sendLook_33 rfl ?_
      refine pe_putiT f_Q_101 g_10_4 d_Q_sendLook_34 rfl rfl 4 rfl hB (by first | exact hB _ _ | exact hB0 _ _ | exact hBt _ _ | exact ⟨by omega, by omega⟩) (fun σ34 hB e34 o34 f34 => ?_)
      try have u34_0 : σ34 24 1 = σ26 24 1 := by first | exact o34 1 (by decide) | exact congrFun (f34 24 (by decide)) 1
      try have u34_1 : σ34 24 2 = σ26 24 2 := by first | exact o34 2 (by decide) | exact congrFun (f34 24 (by decide)) 2
      try have u34_2 : σ34 25 2 = σ26 25 2 := by first | exact o34 2 (by decide) | exact congrFun (f34 25 (by decide)) 2
      try have u34_3 : σ34 25 3 = σ26 25 3 := by first | exact o34 3 (by decide) | exact congrFun (f34 25 (by decide)) 3
      try have u34_4 : σ34 23 2 = σ26 23 2 := by first | exact o34 2 (by decide) | exact congrFun (f34 23 (by decide)) 2
      refine pe_rv d_Q_sendLook_37 ?_
      exact ⟨hB, (fun b hb => (f34 b (by simp at hb ⊢; try omega)).trans ((f26 b (by simp at hb ⊢; try omega)).trans (rfl))), by omega⟩
    · skip
      refine pe_iconst d_Q_sendLook_15 ?_
      refine pe_goto (t := 20) d_Q_sendLook_16 ?_
      refine pe_istore_n d_Q_sendLook_20 ?_
      refine pe_aload_n d_Q_sendLook_21 rfl ?_
      refine pe_iconst d_Q_sendLook_22 ?_
      refine pe_iload_n d_Q_sendLook_23 rfl ?_
      refine pe_bipush d_Q_sendLook_24 ?_
      refine pe_v3v d_Q_sendLook_26 c_Q_32 i_Q_sendSequence s_Q_sendSequence rfl rfl (t_Q_sendSequence hB (by omega) (by first | exact hB _ _ | exact hB0 _ _ | exact hBt _ _ | exact ⟨by omega, by omega⟩) (by first | exact hB _ _ | exact hB0 _ _ | exact hBt _ _ | exact ⟨by omega, by omega⟩) (by first | exact hB _ _ | exact hB0 _ _ | exact hBt _ _ | exact ⟨by omega, by omega⟩)) (fun σ26 hz26 => ?_)
      obtain ⟨hB, f26, x26⟩ := hz26
      try have u26_0 : σ26 24 1 = σ 24 1 := by first | exact o26 1 (by decide) | exact congrFun (f26 24 (by decide)) 1
      try have u26_1 : σ26 24 2 = σ 24 2 := by first | exact o26 2 (by decide) | exact congrFun (f26 24 (by decide)) 2
      try have u26_2 : σ26 25 2 = σ 25 2 := by first | exact o26 2 (by decide) | exact congrFun (f26 25 (by decide)) 2
      try have u26_3 : σ26 25 3 = σ 25 3 := by first | exact o26 3 (by decide) | exact congrFun (f26 25 (by decide)) 3
      try have u26_4 : σ26 23 2 = σ 23 2 := by first | exact o26 2 (by decide) | exact congrFun (f26 23 (by decide)) 2
      refine pe_aload_n d_Q_sendLook_29 rfl ?_
      refine pe_getr f_Q_20 d_Q_sendLook_30 rfl rfl ?_
      refine pe_iload_n d_Q_sendLook_33 rfl ?_
      refine pe_putiT f_Q_101 g_10_4 d_Q_sendLook_34 rfl rfl 4 rfl hB (by first | exact hB _ _ | exact hB0 _ _ | exact hBt _ _ | exact ⟨by omega, by omega⟩) (fun σ34 hB e34 o34 f34 => ?_)
      try have u34_0 : σ34 24 1 = σ26 24 1 := by first | exact o34 1 (by decide) | exact congrFun (f34 24 (by decide)) 1
      try have u34_1 : σ34 24 2 = σ26 24 2 := by first | exact o34 2 (by decide) | exact congrFun (f34 24 (by decide)) 2
      try have u34_2 : σ34 25 2 = σ26 25 2 := by first | exact o34 2 (by decide) | exact congrFun (f34 25 (by decide)) 2
      try have u34_3 : σ34 25 3 = σ26 25 3 := by first | exact o34 3 (by decide) | exact congrFun (f34 25 (by decide)) 3
      try have u34_4 : σ34 23 2 = σ26 23 2 := by first | exact o34 2 (by decide) | exact congrFun (f34 23 (by decide)) 2
      refine pe_rv d_Q_sendLook_37 ?_
      exact ⟨hB, (fun b hb => (f34 b (by simp at hb ⊢; try omega)).trans ((f26 b (by simp at hb ⊢; try omega)).trans (rfl))), by omega⟩
  · skip
    refine pe_bipush d_Q_sendLook_5 ?_
    refine pe_goto (t := 20) d_Q_sendLook_7 ?_
    refine pe_istore_n d_Q_sendLook_20 ?_
    refine pe_aload_n d_Q_sendLook_21 rfl ?_
    refine pe_iconst d_Q_sendLook_22 ?_
    refine pe_iload_n d_Q_sendLook_23 rfl ?_
    refine pe_bipush d_Q_sendLook_24 ?_
    refine pe_v3v d_Q_sendLook_26 c_Q_32 i_Q_sendSequence s_Q_sendSequence rfl rfl (t_Q_sendSequence hB (by omega) (by first | exact hB _ _ | exact hB0 _ _ | exact hBt _ _ | exact ⟨by omega, by omega⟩) (by first | exact hB _ _ | exact hB0 _ _ | exact hBt _ _ | exact ⟨by omega, by omega⟩) (by first | exact hB _ _ | exact hB0 _ _ | exact hBt _ _ | exact ⟨by omega, by omega⟩)) (fun σ26 hz26 => ?_)
    obtain ⟨hB, f26, x26⟩ := hz26
    try have u26_0 : σ26 24 1 = σ 24 1 := by first | exact o26 1 (by decide) | exact congrFun (f26 24 (by decide)) 1
    try have u26_1 : σ26 24 2 = σ 24 2 := by first | exact o26 2 (by decide) | exact congrFun (f26 24 (by decide)) 2
    try have u26_2 : σ26 25 2 = σ 25 2 := by first | exact o26 2 (by decide) | exact congrFun (f26 25 (by decide)) 2
    try have u26_3 : σ26 25 3 = σ 25 3 := by first | exact o26 3 (by decide) | exact congrFun (f26 25 (by decide)) 3
    try have u26_4 : σ26 23 2 = σ 23 2 := by first | exact o26 2 (by decide) | exact congrFun (f26 23 (by decide)) 2
    refine pe_aload_n d_Q_sendLook_29 rfl ?_
    refine pe_getr f_Q_20 d_Q_sendLook_30 rfl rfl ?_
    refine pe_iload_n d_Q_sendLook_33 rfl ?_
    refine pe_putiT f_Q_101 g_10_4 d_Q_sendLook_34 rfl rfl 4 rfl hB (by first | exact hB _ _ | exact hB0 _ _ | exact hBt _ _ | exact ⟨by omega, by omega⟩) (fun σ34 hB e34 o34 f34 => ?_)
    try have u34_0 : σ34 24 1 = σ26 24 1 := by first | exact o34 1 (by decide) | exact congrFun (f34 24 (by decide)) 1
    try have u34_1 : σ34 24 2 = σ26 24 2 := by first | exact o34 2 (by decide) | exact congrFun (f34 24 (by decide)) 2
    try have u34_2 : σ34 25 2 = σ26 25 2 := by first | exact o34 2 (by decide) | exact congrFun (f34 25 (by decide)) 2
    try have u34_3 : σ34 25 3 = σ26 25 3 := by first | exact o34 3 (by decide) | exact congrFun (f34 25 (by decide)) 3
    try have u34_4 : σ34 23 2 = σ26 23 2 := by first | exact o34 2 (by decide) | exact congrFun (f34 23 (by decide)) 2
    refine pe_rv d_Q_sendLook_37 ?_
    exact ⟨hB, (fun b hb => (f34 b (by simp at hb ⊢; try omega)).trans ((f26 b (by simp at hb ⊢; try omega)).trans (rfl))), by omega⟩
theorem t_Q_sendPlace {σ : pe_H} {r c : Int} (hB : pe_B σ) (hd : 1 ≤ σ 25 2 ∧ σ 25 2 ≤ 24 ∧ 1 ≤ σ 25 3 ∧ σ 25 3 ≤ 8) (ht : 0 ≤ σ 24 1 ∧ σ 24 1 ≤ 8 ∧ 0 ≤ σ 24 2 ∧ σ 24 2 ≤ 24) (hq : 0 ≤ σ 23 2 ∧ σ 23 2 ≤ 2048) (hr : 0 ≤ r ∧ r ≤ 8) (hc : 0 ≤ c ∧ c ≤ 24) : pe_M m_Q_sendPlace [pe_r 23, pe_i r, pe_i c] σ (pe_qv (fun σ' => pe_B σ' ∧ (∀ b, b ∉ [23, 24, 28] → σ' b = σ b) ∧ (0 ≤ σ' 24 1 ∧ σ' 24 1 ≤ 8 ∧ 0 ≤ σ' 24 2 ∧ σ' 24 2 ≤ 24 ∧ 0 ≤ σ' 23 2 ∧ σ' 23 2 ≤ 2048))) := by
  refine pe_in0 (lv := [some (pe_r 23), some (pe_i r), some (pe_i c)]) ?_
  have hB0 := hB
  refine pe_aload_n d_Q_sendPlace_0 rfl ?_
  refine pe_iload_n d_Q_sendPlace_1 rfl ?_
  refine pe_iconst d_Q_sendPlace_2 ?_
  refine pe_iadd d_Q_sendPlace_3 ?_
  refine pe_iload_n d_Q_sendPlace_4 rfl ?_
  refine pe_iconst d_Q_sendPlace_5 ?_
  refine pe_iadd d_Q_sendPlace_6 ?_
  refine pe_bipush d_Q_sendPlace_7 ?_
  refine pe_v3v d_Q_sendPlace_9 c_Q_32 i_Q_sendSequence s_Q_sendSequence rfl rfl (t_Q_sendSequence hB (by omega) (by first | exact hB _ _ | exact hB0 _ _ | exact hBt _ _ | exact ⟨by omega, by omega⟩) (by first | exact hB _ _ | exact hB0 _ _ | exact hBt _ _ | exact ⟨by omega, by omega⟩) (by first | exact hB _ _ | exact hB0 _ _ | exact hBt _ _ | exact ⟨by omega, by omega⟩)) (fun σ9 hz9 => ?_)
  obtain ⟨hB, f9, x9⟩ := hz9
  try have u9_0 : σ9 24 1 = σ 24 1 := by first | exact o9 1 (by decide) | exact congrFun (f9 24 (by decide)) 1
  try have u9_1 : σ9 24 2 = σ 24 2 := by first | exact o9 2 (by decide) | exact congrFun (f9 24 (by decide)) 2
  try have u9_2 : σ9 25 2 = σ 25 2 := by first | exact o9 2 (by decide) | exact congrFun (f9 25 (by decide)) 2
  try have u9_3 : σ9 25 3 = σ 25 3 := by first | exact o9 3 (by decide) | exact congrFun (f9 25 (by decide)) 3
  try have u9_4 : σ9 23 2 = σ 23 2 := by first | exact o9 2 (by decide) | exact congrFun (f9 23 (by decide)) 2
  refine pe_aload_n d_Q_sendPlace_12 rfl ?_
  refine pe_getr f_Q_20 d_Q_sendPlace_13 rfl rfl ?_
  refine pe_iload_n d_Q_sendPlace_16 rfl ?_
  refine pe_iload_n d_Q_sendPlace_17 rfl ?_
  refine pe_v2v d_Q_sendPlace_18 c_Q_123 i_Z_moveTo s_Z_moveTo rfl rfl (t_Z_moveTo hB (by omega) (by omega)) (fun σ18 hz18 => ?_)
  obtain ⟨hB, f18, x18⟩ := hz18
  try have u18_0 : σ18 24 1 = σ9 24 1 := by first | exact o18 1 (by decide) | exact congrFun (f18 24 (by decide)) 1
  try have u18_1 : σ18 24 2 = σ9 24 2 := by first | exact o18 2 (by decide) | exact congrFun (f18 24 (by decide)) 2
  try have u18_2 : σ18 25 2 = σ9 25 2 := by first | exact o18 2 (by decide) | exact congrFun (f18 25 (by decide)) 2
  try have u18_3 : σ18 25 3 = σ9 25 3 := by first | exact o18 3 (by decide) | exact congrFun (f18 25 (by decide)) 3
  try have u18_4 : σ18 23 2 = σ9 23 2 := by first | exact o18 2 (by decide) | exact congrFun (f18 23 (by decide)) 2
  refine pe_rv d_Q_sendPlace_21 ?_
  exact ⟨hB, (fun b hb => (f18 b (by simp at hb ⊢; try omega)).trans ((f9 b (by simp at hb ⊢; try omega)).trans (rfl))), by omega⟩
theorem t_Q_makePlaceRight {σ : pe_H} {r c : Int} (hB : pe_B σ) (hd : 1 ≤ σ 25 2 ∧ σ 25 2 ≤ 24 ∧ 1 ≤ σ 25 3 ∧ σ 25 3 ≤ 8) (ht : 0 ≤ σ 24 1 ∧ σ 24 1 ≤ 8 ∧ 0 ≤ σ 24 2 ∧ σ 24 2 ≤ 24) (hq : 0 ≤ σ 23 2 ∧ σ 23 2 ≤ 2048) (hr : 0 ≤ r ∧ r ≤ 8) (hc : 0 ≤ c ∧ c ≤ 24) : pe_M m_Q_makePlaceRight [pe_r 23, pe_i r, pe_i c] σ (pe_qv (fun σ' => pe_B σ' ∧ (∀ b, b ∉ [23, 24, 28] → σ' b = σ b) ∧ (0 ≤ σ' 24 1 ∧ σ' 24 1 ≤ 8 ∧ 0 ≤ σ' 24 2 ∧ σ' 24 2 ≤ 24 ∧ 0 ≤ σ' 23 2 ∧ σ' 23 2 ≤ 2048))) := by
  refine pe_in0 (lv := [some (pe_r 23), some (pe_i r), some (pe_i c), none, none]) ?_
  have hB0 := hB
  have J110 : ∀ q : Int, (q = 0 ∨ q = 1) → pe_G m_Q_makePlaceRight 110 [some (pe_r 23), some (pe_i r), some (pe_i c), some (pe_i q), none] [] σ (pe_qv (fun σ' => pe_B σ' ∧ (∀ b, b ∉ [23, 24, 28] → σ' b = σ b) ∧ (0 ≤ σ' 24 1 ∧ σ' 24 1 ≤ 8 ∧ 0 ≤ σ' 24 2 ∧ σ' 24 2 ≤ 24 ∧ 0 ≤ σ' 23 2 ∧ σ' 23 2 ≤ 2048))) := by
    intro q hI
    refine pe_iload_n d_Q_makePlaceRight_110 rfl ?_
    refine pe_if_ne (t := 136) d_Q_makePlaceRight_111 (by first | exact hB _ _ | exact hB0 _ _ | exact hBt _ _ | exact ⟨by omega, by omega⟩) (fun h111 => ?_) (fun h111 => ?_)
    · skip
      refine pe_iload_n d_Q_makePlaceRight_136 rfl ?_
      refine pe_if_ne (t := 177) d_Q_makePlaceRight_137 (by first | exact hB _ _ | exact hB0 _ _ | exact hBt _ _ | exact ⟨by omega, by omega⟩) (fun h137 => ?_) (fun h137 => ?_)
      · skip
        refine pe_aload_n d_Q_makePlaceRight_177 rfl ?_
        refine pe_iload_n d_Q_makePlaceRight_178 rfl ?_
        refine pe_iload_n d_Q_makePlaceRight_179 rfl ?_
        refine pe_v2v d_Q_makePlaceRight_180 c_Q_98 i_Q_sendPlace s_Q_sendPlace rfl rfl (t_Q_sendPlace hB (by omega) (by omega) (by omega) (by omega) (by omega)) (fun σ180 hz180 => ?_)
        obtain ⟨hB, f180, x180⟩ := hz180
        try have u180_0 : σ180 24 1 = σ 24 1 := by first | exact o180 1 (by decide) | exact congrFun (f180 24 (by decide)) 1
        try have u180_1 : σ180 24 2 = σ 24 2 := by first | exact o180 2 (by decide) | exact congrFun (f180 24 (by decide)) 2
        try have u180_2 : σ180 25 2 = σ 25 2 := by first | exact o180 2 (by decide) | exact congrFun (f180 25 (by decide)) 2
        try have u180_3 : σ180 25 3 = σ 25 3 := by first | exact o180 3 (by decide) | exact congrFun (f180 25 (by decide)) 3
        try have u180_4 : σ180 23 2 = σ 23 2 := by first | exact o180 2 (by decide) | exact congrFun (f180 23 (by decide)) 2
        refine pe_rv d_Q_makePlaceRight_183 ?_
        exact ⟨hB, (fun b hb => (f180 b (by simp at hb ⊢; try omega)).trans (rfl)), by omega⟩
      · skip
        refine pe_iload_n d_Q_makePlaceRight_140 rfl ?_
        refine pe_aload_n d_Q_makePlaceRight_141 rfl ?_
        refine pe_getr f_Q_20 d_Q_makePlaceRight_142 rfl rfl ?_
        refine pe_geti f_Q_113 d_Q_makePlaceRight_145 rfl rfl 1 rfl ?_
        refine pe_iconst d_Q_makePlaceRight_148 ?_
        refine pe_iadd d_Q_makePlaceRight_149 ?_
        refine pe_icmp_ne (t := 177) d_Q_makePlaceRight_150 (by first | exact hB _ _ | exact hB0 _ _ | exact hBt _ _ | exact ⟨by omega, by omega⟩) (by first | exact hB _ _ | exact hB0 _ _ | exact hBt _ _ | exact ⟨by omega, by omega⟩) (fun h150 => ?_) (fun h150 => ?_)
        · skip
          refine pe_aload_n d_Q_makePlaceRight_177 rfl ?_
          refine pe_iload_n d_Q_makePlaceRight_178 rfl ?_
          refine pe_iload_n d_Q_makePlaceRight_179 rfl ?_
          refine pe_v2v d_Q_makePlaceRight_180 c_Q_98 i_Q_sendPlace s_Q_sendPlace rfl rfl (t_Q_sendPlace hB (by omega) (by omega) (by omega) (by omega) (by omega)) (fun σ180 hz180 => ?_)
          obtain ⟨hB, f180, x180⟩ := hz180
          try have u180_0 : σ180 24 1 = σ 24 1 := by first | exact o180 1 (by decide) | exact congrFun (f180 24 (by decide)) 1
          try have u180_1 : σ180 24 2 = σ 24 2 := by first | exact o180 2 (by decide) | exact congrFun (f180 24 (by decide)) 2
          try have u180_2 : σ180 25 2 = σ 25 2 := by first | exact o180 2 (by decide) | exact congrFun (f180 25 (by decide)) 2
          try have u180_3 : σ180 25 3 = σ 25 3 := by first | exact o180 3 (by decide) | exact congrFun (f180 25 (by decide)) 3
          try have u180_4 : σ180 23 2 = σ 23 2 := by first | exact o180 2 (by decide) | exact congrFun (f180 23 (by decide)) 2
          refine pe_rv d_Q_makePlaceRight_183 ?_
          exact ⟨hB, (fun b hb => (f180 b (by simp at hb ⊢; try omega)).trans (rfl)), by omega⟩
        · skip
          refine pe_aload_n d_Q_makePlaceRight_153 rfl ?_
          refine pe_bipush d_Q_makePlaceRight_154 ?_
          refine pe_any (fun v156 hv156 => ?_)
          refine pe_v1v d_Q_makePlaceRight_156 c_Q_126 i_Q_put s_Q_put rfl rfl (t_Q_put hB (by omega) (by first | exact hB _ _ | exact hB0 _ _ | exact hBt _ _ | exact ⟨by omega, by omega⟩)) (fun σ156 hz156 => ?_)
          obtain ⟨hB, f156, x156⟩ := hz156
          try have u156_0 : σ156 24 1 = σ 24 1 := by first | exact o156 1 (by decide) | exact congrFun (f156 24 (by decide)) 1
          try have u156_1 : σ156 24 2 = σ 24 2 := by first | exact o156 2 (by decide) | exact congrFun (f156 24 (by decide)) 2
          try have u156_2 : σ156 25 2 = σ 25 2 := by first | exact o156 2 (by decide) | exact congrFun (f156 25 (by decide)) 2
          try have u156_3 : σ156 25 3 = σ 25 3 := by first | exact o156 3 (by decide) | exact congrFun (f156 25 (by decide)) 3
          try have u156_4 : σ156 23 2 = σ 23 2 := by first | exact o156 2 (by decide) | exact congrFun (f156 23 (by decide)) 2
          refine pe_aload_n d_Q_makePlaceRight_159 rfl ?_
          refine pe_bipush d_Q_makePlaceRight_160 ?_
          refine pe_any (fun v162 hv162 => ?_)
          refine pe_v1v d_Q_makePlaceRight_162 c_Q_126 i_Q_put s_Q_put rfl rfl (t_Q_put hB (by omega) (by first | exact hB _ _ | exact hB0 _ _ | exact hBt _ _ | exact ⟨by omega, by omega⟩)) (fun σ162 hz162 => ?_)
          obtain ⟨hB, f162, x162⟩ := hz162
          try have u162_0 : σ162 24 1 = σ156 24 1 := by first | exact o162 1 (by decide) | exact congrFun (f162 24 (by decide)) 1
          try have u162_1 : σ162 24 2 = σ156 24 2 := by first | exact o162 2 (by decide) | exact congrFun (f162 24 (by decide)) 2
          try have u162_2 : σ162 25 2 = σ156 25 2 := by first | exact o162 2 (by decide) | exact congrFun (f162 25 (by decide)) 2
          try have u162_3 : σ162 25 3 = σ156 25 3 := by first | exact o162 3 (by decide) | exact congrFun (f162 25 (by decide)) 3
          try have u162_4 : σ162 23 2 = σ156 23 2 := by first | exact o162 2 (by decide) | exact congrFun (f162 23 (by decide)) 2
          refine pe_aload_n d_Q_makePlaceRight_165 rfl ?_
          refine pe_getr f_Q_20 d_Q_makePlaceRight_166 rfl rfl ?_
          refine pe_iload_n d_Q_makePlaceRight_169 rfl ?_
          refine pe_iconst d_Q_makePlaceRight_170 ?_
          refine pe_v2v d_Q_makePlaceRight_171 c_Q_123 i_Z_moveTo s_Z_moveTo rfl rfl (t_Z_moveTo hB (by omega) (by omega)) (fun σ171 hz171 => ?_)
          obtain ⟨hB, f171, x171⟩ := hz171
          try have u171_0 : σ171 24 1 = σ162 24 1 := by first | exact o171 1 (by decide) | exact congrFun (f171 24 (by decide)) 1
          try have u171_1 : σ171 24 2 = σ162 24 2 := by first | exact o171 2 (by decide) | exact congrFun (f171 24 (by decide)) 2
          try have u171_2 : σ171 25 2 = σ162 25 2 := by first | exact o171 2 (by decide) | exact congrFun (f171 25 (by decide)) 2
          try have u171_3 : σ171 25 3 = σ162 25 3 := by first | exact o171 3 (by decide) | exact congrFun (f171 25 (by decide)) 3
          try have u171_4 : σ171 23 2 = σ162 23 2 := by first | exact o171 2 (by decide) | exact congrFun (f171 23 (by decide)) 2
          refine pe_goto (t := 183) d_Q_makePlaceRight_174 ?_
          refine pe_rv d_Q_makePlaceRight_183 ?_
          exact ⟨hB, (fun b hb => (f171 b (by simp at hb ⊢; try omega)).trans ((f162 b (by simp at hb ⊢; try omega)).trans ((f156 b (by simp at hb ⊢; try omega)).trans (rfl)))), by omega⟩
    · skip
      refine pe_iload_n d_Q_makePlaceRight_114 rfl ?_
      refine pe_if_eq (t := 136) d_Q_makePlaceRight_115 (by first | exact hB _ _ | exact hB0 _ _ | exact hBt _ _ | exact ⟨by omega, by omega⟩) (fun h115 => ?_) (fun h115 => ?_)
      · skip
        refine pe_iload_n d_Q_makePlaceRight_136 rfl ?_
        refine pe_if_ne (t := 177) d_Q_makePlaceRight_137 (by first | exact hB _ _ | exact hB0 _ _ | exact hBt _ _ | exact ⟨by omega, by omega⟩) (fun h137 => ?_) (fun h137 => ?_)
        · skip
          refine pe_aload_n d_Q_makePlaceRight_177 rfl ?_
          refine pe_iload_n d_Q_makePlaceRight_178 rfl ?_
          refine pe_iload_n d_Q_makePlaceRight_179 rfl ?_
          refine pe_v2v d_Q_makePlaceRight_180 c_Q_98 i_Q_sendPlace s_Q_sendPlace rfl rfl (t_Q_sendPlace hB (by omega) (by omega) (by omega) (by omega) (by omega)) (fun σ180 hz180 => ?_)
          obtain ⟨hB, f180, x180⟩ := hz180
          try have u180_0 : σ180 24 1 = σ 24 1 := by first | exact o180 1 (by decide) | exact congrFun (f180 24 (by decide)) 1
          try have u180_1 : σ180 24 2 = σ 24 2 := by first | exact o180 2 (by decide) | exact congrFun (f180 24 (by decide)) 2
          try have u180_2 : σ180 25 2 = σ 25 2 := by first | exact o180 2 (by decide) | exact congrFun (f180 25 (by decide)) 2
          try have u180_3 : σ180 25 3 = σ 25 3 := by first | exact o180 3 (by decide) | exact congrFun (f180 25 (by decide)) 3
          try have u180_4 : σ180 23 2 = σ 23 2 := by first | exact o180 2 (by decide) | exact congrFun (f180 23 (by decide)) 2
          refine pe_rv d_Q_makePlaceRight_183 ?_
          exact ⟨hB, (fun b hb => (f180 b (by simp at hb ⊢; try omega)).trans (rfl)), by omega⟩
        · skip
          refine pe_iload_n d_Q_makePlaceRight_140 rfl ?_
          refine pe_aload_n d_Q_makePlaceRight_141 rfl ?_
          refine pe_getr f_Q_20 d_Q_makePlaceRight_142 rfl rfl ?_
          refine pe_geti f_Q_113 d_Q_makePlaceRight_145 rfl rfl 1 rfl ?_
          refine pe_iconst d_Q_makePlaceRight_148 ?_
          refine pe_iadd d_Q_makePlaceRight_149 ?_
          refine pe_icmp_ne (t := 177) d_Q_makePlaceRight_150 (by first | exact hB _ _ | exact hB0 _ _ | exact hBt _ _ | exact ⟨by omega, by omega⟩) (by first | exact hB _ _ | exact hB0 _ _ | exact hBt _ _ | exact ⟨by omega, by omega⟩) (fun h150 => ?_) (fun h150 => ?_)
          · skip
            refine pe_aload_n d_Q_makePlaceRight_177 rfl ?_
            refine pe_iload_n d_Q_makePlaceRight_178 rfl ?_
            refine pe_iload_n d_Q_makePlaceRight_179 rfl ?_
            refine pe_v2v d_Q_makePlaceRight_180 c_Q_98 i_Q_sendPlace s_Q_sendPlace rfl rfl (t_Q_sendPlace hB (by omega) (by omega) (by omega) (by omega) (by omega)) (fun σ180 hz180 => ?_)
            obtain ⟨hB, f180, x180⟩ := hz180
            try have u180_0 : σ180 24 1 = σ 24 1 := by first | exact o180 1 (by decide) | exact congrFun (f180 24 (by decide)) 1
            try have u180_1 : σ180 24 2 = σ 24 2 := by first | exact o180 2 (by decide) | exact congrFun (f180 24 (by decide)) 2
            try have u180_2 : σ180 25 2 = σ 25 2 := by first | exact o180 2 (by decide) | exact congrFun (f180 25 (by decide)) 2
            try have u180_3 : σ180 25 3 = σ 25 3 := by first | exact o180 3 (by decide) | exact congrFun (f180 25 (by decide)) 3
            try have u180_4 : σ180 23 2 = σ 23 2 := by first | exact o180 2 (by decide) | exact congrFun (f180 23 (by decide)) 2
            refine pe_rv d_Q_makePlaceRight_183 ?_
            exact ⟨hB, (fun b hb => (f180 b (by simp at hb ⊢; try omega)).trans (rfl)), by omega⟩
          · skip
            refine pe_aload_n d_Q_makePlaceRight_153 rfl ?_
            refine pe_bipush d_Q_makePlaceRight_154 ?_
            refine pe_any (fun v156 hv156 => ?_)
            refine pe_v1v d_Q_makePlaceRight_156 c_Q_126 i_Q_put s_Q_put rfl rfl (t_Q_put hB (by omega) (by first | exact hB _ _ | exact hB0 _ _ | exact hBt _ _ | exact ⟨by omega, by omega⟩)) (fun σ156 hz156 => ?_)
            obtain ⟨hB, f156, x156⟩ := hz156
            try have u156_0 : σ156 24 1 = σ 24 1 := by first | exact o156 1 (by decide) | exact congrFun (f156 24 (by decide)) 1
            try have u156_1 : σ156 24 2 = σ 24 2 := by first | exact o156 2 (by decide) | exact congrFun (f156 24 (by decide)) 2
            try have u156_2 : σ156 25 2 = σ 25 2 := by first | exact o156 2 (by decide) | exact congrFun (f156 25 (by decide)) 2
            try have u156_3 : σ156 25 3 = σ 25 3 := by first | exact o156 3 (by decide) | exact congrFun (f156 25 (by decide)) 3
            try have u156_4 : σ156 23 2 = σ 23 2 := by first | exact o156 2 (by decide) | exact congrFun (f156 23 (by decide)) 2
            refine pe_aload_n d_Q_makePlaceRight_159 rfl ?_
            refine pe_bipush d_Q_makePlaceRight_160 ?_
            refine pe_any (fun v162 hv162 => ?_)
            refine pe_v1v d_Q_makePlaceRight_162 c_Q_126 i_Q_put s_Q_put rfl rfl (t_Q_put hB (by omega) (by first | exact hB _ _ | exact hB0 _ _ | exact hBt _ _ | exact ⟨by omega, by omega⟩)) (fun σ162 hz162 => ?_)
            obtain ⟨hB, f162, x162⟩ := hz162
            try have u162_0 : σ162 24 1 = σ156 24 1 := by first | exact o162 1 (by decide) | exact congrFun (f162 24 (by decide)) 1
            try have u162_1 : σ162 24 2 = σ156 24 2 := by first | exact o162 2 (by decide) | exact congrFun (f162 24 (by decide)) 2
            try have u162_2 : σ162 25 2 = σ156 25 2 := by first | exact o162 2 (by decide) | exact congrFun (f162 25 (by decide)) 2
            try have u162_3 : σ162 25 3 = σ156 25 3 := by first | exact o162 3 (by decide) | exact congrFun (f162 25 (by decide)) 3
            try have u162_4 : σ162 23 2 = σ156 23 2 := by first | exact o162 2 (by decide) | exact congrFun (f162 23 (by decide)) 2
            refine pe_aload_n d_Q_makePlaceRight_165 rfl ?_
            refine pe_getr f_Q_20 d_Q_makePlaceRight_166 rfl rfl ?_
            refine pe_iload_n d_Q_makePlaceRight_169 rfl ?_
            refine pe_iconst d_Q_makePlaceRight_170 ?_
            refine pe_v2v d_Q_makePlaceRight_171 c_Q_123 i_Z_moveTo s_Z_moveTo rfl rfl (t_Z_moveTo hB (by omega) (by omega)) (fun σ171 hz171 => ?_)
            obtain ⟨hB, f171, x171⟩ := hz171
            try have u171_0 : σ171 24 1 = σ162 24 1 := by first | exact o171 1 (by decide) | exact congrFun (f171 24 (by decide)) 1
            try have u171_1 : σ171 24 2 = σ162 24 2 := by first | exact o171 2 (by decide) | exact congrFun (f171 24 (by decide)) 2
            try have u171_2 : σ171 25 2 = σ162 25 2 := by first | exact o171 2 (by decide) | exact congrFun (f171 25 (by decide)) 2
            try have u171_3 : σ171 25 3 = σ162 25 3 := by first | exact o171 3 (by decide) | exact congrFun (f171 25 (by decide)) 3
            try have u171_4 : σ171 23 2 = σ162 23 2 := by first | exact o171 2 (by decide) | exact congrFun (f171 23 (by decide)) 2
            refine pe_goto (t := 183) d_Q_makePlaceRight_174 ?_
            refine pe_rv d_Q_makePlaceRight_183 ?_
            exact ⟨hB, (fun b hb => (f171 b (by simp at hb ⊢; try omega)).trans ((f162 b (by simp at hb ⊢; try omega)).trans ((f156 b (by simp at hb ⊢; try omega)).trans (rfl)))), by omega⟩
      · skip
        refine pe_aload_n d_Q_makePlaceRight_118 rfl ?_
        refine pe_bipush d_Q_makePlaceRight_119 ?_
        refine pe_any (fun v121 hv121 => ?_)
        refine pe_v1v d_Q_makePlaceRight_121 c_Q_126 i_Q_put s_Q_put rfl rfl (t_Q_put hB (by omega) (by first | exact hB _ _ | exact hB0 _ _ | exact hBt _ _ | exact ⟨by omega, by omega⟩)) (fun σ121 hz121 => ?_)
        obtain ⟨hB, f121, x121⟩ := hz121
        try have u121_0 : σ121 24 1 = σ 24 1 := by first | exact o121 1 (by decide) | exact congrFun (f121 24 (by decide)) 1
        try have u121_1 : σ121 24 2 = σ 24 2 := by first | exact o121 2 (by decide) | exact congrFun (f121 24 (by decide)) 2
        try have u121_2 : σ121 25 2 = σ 25 2 := by first | exact o121 2 (by decide) | exact congrFun (f121 25 (by decide)) 2
        try have u121_3 : σ121 25 3 = σ 25 3 := by first | exact o121 3 (by decide) | exact congrFun (f121 25 (by decide)) 3
        try have u121_4 : σ121 23 2 = σ 23 2 := by first | exact o121 2 (by decide) | exact congrFun (f121 23 (by decide)) 2
        refine pe_aload_n d_Q_makePlaceRight_124 rfl ?_
        refine pe_getr f_Q_20 d_Q_makePlaceRight_125 rfl rfl ?_
        refine pe_iload_n d_Q_makePlaceRight_128 rfl ?_
        refine pe_iconst d_Q_makePlaceRight_129 ?_
        refine pe_v2v d_Q_makePlaceRight_130 c_Q_123 i_Z_moveTo s_Z_moveTo rfl rfl (t_Z_moveTo hB (by omega) (by omega)) (fun σ130 hz130 => ?_)
        obtain ⟨hB, f130, x130⟩ := hz130
        try have u130_0 : σ130 24 1 = σ121 24 1 := by first | exact o130 1 (by decide) | exact congrFun (f130 24 (by decide)) 1
        try have u130_1 : σ130 24 2 = σ121 24 2 := by first | exact o130 2 (by decide) | exact congrFun (f130 24 (by decide)) 2
        try have u130_2 : σ130 25 2 = σ121 25 2 := by first | exact o130 2 (by decide) | exact congrFun (f130 25 (by decide)) 2
        try have u130_3 : σ130 25 3 = σ121 25 3 := by first | exact o130 3 (by decide) | exact congrFun (f130 25 (by decide)) 3
        try have u130_4 : σ130 23 2 = σ121 23 2 := by first | exact o130 2 (by decide) | exact congrFun (f130 23 (by decide)) 2
        refine pe_goto (t := 183) d_Q_makePlaceRight_133 ?_
        refine pe_rv d_Q_makePlaceRight_183 ?_
        exact ⟨hB, (fun b hb => (f130 b (by simp at hb ⊢; try omega)).trans ((f121 b (by simp at hb ⊢; try omega)).trans (rfl))), by omega⟩
  have J43 : ∀ q : Int, (q = 0 ∨ q = 1) → pe_G m_Q_makePlaceRight 43 [some (pe_r 23), some (pe_i r), some (pe_i c), some (pe_i q), none] [] σ (pe_qv (fun σ' => pe_B σ' ∧ (∀ b, b ∉ [23, 24, 28] → σ' b = σ b) ∧ (0 ≤ σ' 24 1 ∧ σ' 24 1 ≤ 8 ∧ 0 ≤ σ' 24 2 ∧ σ' 24 2 ≤ 24 ∧ 0 ≤ σ' 23 2 ∧ σ' 23 2 ≤ 2048))) := by
    intro q hI
    refine pe_iload_n d_Q_makePlaceRight_43 rfl ?_
    refine pe_if_eq (t := 110) d_Q_makePlaceRight_44 (by first | exact hB _ _ | exact hB0 _ _ | exact hBt _ _ | exact ⟨by omega, by omega⟩) (fun h44 => ?_) (fun h44 => ?_)
    · skip
      exact J110 _ (by omega)
    · skip
      refine pe_iload_n d_Q_makePlaceRight_47 rfl ?_
      refine pe_aload_n d_Q_makePlaceRight_48 rfl ?_
      refine pe_getr f_Q_20 d_Q_makePlaceRight_49 rfl rfl ?_
      refine pe_geti f_Q_116 d_Q_makePlaceRight_52 rfl rfl 2 rfl ?_
      refine pe_icmp_le (t := 110) d_Q_makePlaceRight_55 (by first | exact hB _ _ | exact hB0 _ _ | exact hBt _ _ | exact ⟨by omega, by omega⟩) (by first | exact hB _ _ | exact hB0 _ _ | exact hBt _ _ | exact ⟨by omega, by omega⟩) (fun h55 => ?_) (fun h55 => ?_)
      · skip
        exact J110 _ (by omega)
      · skip
        refine pe_aload_n d_Q_makePlaceRight_58 rfl ?_
        refine pe_getr f_Q_20 d_Q_makePlaceRight_59 rfl rfl ?_
        refine pe_geti f_Q_119 d_Q_makePlaceRight_62 rfl rfl 3 rfl ?_
        refine pe_if_ne (t := 110) d_Q_makePlaceRight_65 (by first | exact hB _ _ | exact hB0 _ _ | exact hBt _ _ | exact ⟨by omega, by omega⟩) (fun h65 => ?_) (fun h65 => ?_)
        · skip
          exact J110 _ (by omega)
        · skip
          refine pe_iload_n d_Q_makePlaceRight_68 rfl ?_
          refine pe_aload_n d_Q_makePlaceRight_69 rfl ?_
          refine pe_getr f_Q_20 d_Q_makePlaceRight_70 rfl rfl ?_
          refine pe_geti f_Q_116 d_Q_makePlaceRight_73 rfl rfl 2 rfl ?_
          refine pe_isub d_Q_makePlaceRight_76 ?_
          refine pe_istore d_Q_makePlaceRight_77 ?_
          refine pe_aload_n d_Q_makePlaceRight_79 rfl ?_
          refine pe_iload d_Q_makePlaceRight_80 rfl ?_
          refine pe_iconst d_Q_makePlaceRight_82 ?_
          refine pe_icmp_ne (t := 90) d_Q_makePlaceRight_83 (by first | exact hB _ _ | exact hB0 _ _ | exact hBt _ _ | exact ⟨by omega, by omega⟩) (by first | exact hB _ _ | exact hB0 _ _ | exact hBt _ _ | exact ⟨by omega, by omega⟩) (fun h83 => ?_) (fun h83 => ?_)
          · skip
            refine pe_iload d_Q_makePlaceRight_90 rfl ?_
            refine pe_iconst d_Q_makePlaceRight_92 ?_
            refine pe_bipush d_Q_makePlaceRight_93 ?_
            refine pe_v3v d_Q_makePlaceRight_95 c_Q_32 i_Q_sendSequence s_Q_sendSequence rfl rfl (t_Q_sendSequence hB (by omega) (by first | exact hB _ _ | exact hB0 _ _ | exact hBt _ _ | exact ⟨by omega, by omega⟩) (by first | exact hB _ _ | exact hB0 _ _ | exact hBt _ _ | exact ⟨by omega, by omega⟩) (by first | exact hB _ _ | exact hB0 _ _ | exact hBt _ _ | exact ⟨by omega, by omega⟩)) (fun σ95 hz95 => ?_)
            obtain ⟨hB, f95, x95⟩ := hz95
            try have u95_0 : σ95 24 1 = σ 24 1 := by first | exact o95 1 (by decide) | exact congrFun (f95 24 (by decide)) 1
            try have u95_1 : σ95 24 2 = σ 24 2 := by first | exact o95 2 (by decide) | exact congrFun (f95 24 (by decide)) 2
            try have u95_2 : σ95 25 2 = σ 25 2 := by first | exact o95 2 (by decide) | exact congrFun (f95 25 (by decide)) 2
            try have u95_3 : σ95 25 3 = σ 25 3 := by first | exact o95 3 (by decide) | exact congrFun (f95 25 (by decide)) 3
            try have u95_4 : σ95 23 2 = σ 23 2 := by first | exact o95 2 (by decide) | exact congrFun (f95 23 (by decide)) 2
            refine pe_aload_n d_Q_makePlaceRight_98 rfl ?_
            refine pe_getr f_Q_20 d_Q_makePlaceRight_99 rfl rfl ?_
            refine pe_iload_n d_Q_makePlaceRight_102 rfl ?_
            refine pe_iload_n d_Q_makePlaceRight_103 rfl ?_
            refine pe_v2v d_Q_makePlaceRight_104 c_Q_123 i_Z_moveTo s_Z_moveTo rfl rfl (t_Z_moveTo hB (by omega) (by omega)) (fun σ104 hz104 => ?_)
            obtain ⟨hB, f104, x104⟩ := hz104
            try have u104_0 : σ104 24 1 = σ95 24 1 := by first | exact o104 1 (by decide) | exact congrFun (f104 24 (by decide)) 1
            try have u104_1 : σ104 24 2 = σ95 24 2 := by first | exact o104 2 (by decide) | exact congrFun (f104 24 (by decide)) 2
            try have u104_2 : σ104 25 2 = σ95 25 2 := by first | exact o104 2 (by decide) | exact congrFun (f104 25 (by decide)) 2
            try have u104_3 : σ104 25 3 = σ95 25 3 := by first | exact o104 3 (by decide) | exact congrFun (f104 25 (by decide)) 3
            try have u104_4 : σ104 23 2 = σ95 23 2 := by first | exact o104 2 (by decide) | exact congrFun (f104 23 (by decide)) 2
            refine pe_goto (t := 183) d_Q_makePlaceRight_107 ?_
            refine pe_rv d_Q_makePlaceRight_183 ?_
            exact ⟨hB, (fun b hb => (f104 b (by simp at hb ⊢; try omega)).trans ((f95 b (by simp at hb ⊢; try omega)).trans (rfl))), by omega⟩
          · skip
            refine pe_iconst d_Q_makePlaceRight_86 ?_
            refine pe_goto (t := 92) d_Q_makePlaceRight_87 ?_
            refine pe_iconst d_Q_makePlaceRight_92 ?_
            refine pe_bipush d_Q_makePlaceRight_93 ?_
            refine pe_v3v d_Q_makePlaceRight_95 c_Q_32 i_Q_sendSequence s_Q_sendSequence rfl rfl (t_Q_sendSequence hB (by omega) (by first | exact hB _ _ | exact hB0 _ _ | exact hBt _ _ | exact ⟨by omega, by omega⟩) (by first | exact hB _ _ | exact hB0 _ _ | exact hBt _ _ | exact ⟨by omega, by omega⟩) (by first | exact hB _ _ | exact hB0 _ _ | exact hBt _ _ | exact ⟨by omega, by omega⟩)) (fun σ95 hz95 => ?_)
            obtain ⟨hB, f95, x95⟩ := hz95
            try have u95_0 : σ95 24 1 = σ 24 1 := by first | exact o95 1 (by decide) | exact congrFun (f95 24 (by decide)) 1
            try have u95_1 : σ95 24 2 = σ 24 2 := by first | exact o95 2 (by decide) | exact congrFun (f95 24 (by decide)) 2
            try have u95_2 : σ95 25 2 = σ 25 2 := by first | exact o95 2 (by decide) | exact congrFun (f95 25 (by decide)) 2
            try have u95_3 : σ95 25 3 = σ 25 3 := by first | exact o95 3 (by decide) | exact congrFun (f95 25 (by decide)) 3
            try have u95_4 : σ95 23 2 = σ 23 2 := by first | exact o95 2 (by decide) | exact congrFun (f95 23 (by decide)) 2
            refine pe_aload_n d_Q_makePlaceRight_98 rfl ?_
            refine pe_getr f_Q_20 d_Q_makePlaceRight_99 rfl rfl ?_
            refine pe_iload_n d_Q_makePlaceRight_102 rfl ?_
            refine pe_iload_n d_Q_makePlaceRight_103 rfl ?_
            refine pe_v2v d_Q_makePlaceRight_104 c_Q_123 i_Z_moveTo s_Z_moveTo rfl rfl (t_Z_moveTo hB (by omega) (by omega)) (fun σ104 hz104 => ?_)
            obtain ⟨hB, f104, x104⟩ := hz104
            try have u104_0 : σ104 24 1 = σ95 24 1 := by first | exact o104 1 (by decide) | exact congrFun (f104 24 (by decide)) 1
            try have u104_1 : σ104 24 2 = σ95 24 2 := by first | exact o104 2 (by decide) | exact congrFun (f104 24 (by decide)) 2
            try have u104_2 : σ104 25 2 = σ95 25 2 := by first | exact o104 2 (by decide) | exact congrFun (f104 25 (by decide)) 2
            try have u104_3 : σ104 25 3 = σ95 25 3 := by first | exact o104 3 (by decide) | exact congrFun (f104 25 (by decide)) 3
            try have u104_4 : σ104 23 2 = σ95 23 2 := by first | exact o104 2 (by decide) | exact congrFun (f104 23 (by decide)) 2
            refine pe_goto (t := 183) d_Q_makePlaceRight_107 ?_
            refine pe_rv d_Q_makePlaceRight_183 ?_
            exact ⟨hB, (fun b hb => (f104 b (by simp at hb ⊢; try omega)).trans ((f95 b (by simp at hb ⊢; try omega)).trans (rfl))), by omega⟩
  refine pe_aload_n d_Q_makePlaceRight_0 rfl ?_
  refine pe_getr f_Q_20 d_Q_makePlaceRight_1 rfl rfl ?_
  refine pe_geti f_Q_113 d_Q_makePlaceRight_4 rfl rfl 1 rfl ?_
  refine pe_iload_n d_Q_makePlaceRight_7 rfl ?_
  refine pe_icmp_ne (t := 15) d_Q_makePlaceRight_8 (by first | exact hB _ _ | exact hB0 _ _ | exact hBt _ _ | exact ⟨by omega, by omega⟩) (by first | exact hB _ _ | exact hB0 _ _ | exact hBt _ _ | exact ⟨by omega, by omega⟩) (fun h8 => ?_) (fun h8 => ?_)
  · skip
    refine pe_iconst d_Q_makePlaceRight_15 ?_
    refine pe_istore_n d_Q_makePlaceRight_16 ?_
    refine pe_iload_n d_Q_makePlaceRight_17 rfl ?_
    refine pe_if_eq (t := 43) d_Q_makePlaceRight_18 (by first | exact hB _ _ | exact hB0 _ _ | exact hBt _ _ | exact ⟨by omega, by omega⟩) (fun h18 => ?_) (fun h18 => ?_)
    · skip
      exact J43 _ (by omega)
    · skip
      refine pe_aload_n d_Q_makePlaceRight_21 rfl ?_
      refine pe_getr f_Q_20 d_Q_makePlaceRight_22 rfl rfl ?_
      refine pe_geti f_Q_116 d_Q_makePlaceRight_25 rfl rfl 2 rfl ?_
      refine pe_iload_n d_Q_makePlaceRight_28 rfl ?_
      refine pe_icmp_ne (t := 43) d_Q_makePlaceRight_29 (by first | exact hB _ _ | exact hB0 _ _ | exact hBt _ _ | exact ⟨by omega, by omega⟩) (by first | exact hB _ _ | exact hB0 _ _ | exact hBt _ _ | exact ⟨by omega, by omega⟩) (fun h29 => ?_) (fun h29 => ?_)
      · skip
        exact J43 _ (by omega)
      · skip
        refine pe_aload_n d_Q_makePlaceRight_32 rfl ?_
        refine pe_getr f_Q_20 d_Q_makePlaceRight_33 rfl rfl ?_
        refine pe_geti f_Q_119 d_Q_makePlaceRight_36 rfl rfl 3 rfl ?_
        refine pe_if_ne (t := 43) d_Q_makePlaceRight_39 (by first | exact hB _ _ | exact hB0 _ _ | exact hBt _ _ | exact ⟨by omega, by omega⟩) (fun h39 => ?_) (fun h39 => ?_)
        · skip
          exact J43 _ (by omega)
        · skip
          refine pe_rv d_Q_makePlaceRight_42 ?_
          exact ⟨hB, (fun b hb => rfl), by omega⟩
  · skip
    refine pe_iconst d_Q_makePlaceRight_11 ?_
    refine pe_goto (t := 16) d_Q_makePlaceRight_12 ?_
    refine pe_istore_n d_Q_makePlaceRight_16 ?_
    refine pe_iload_n d_Q_makePlaceRight_17 rfl ?_
    refine pe_if_eq (t := 43) d_Q_makePlaceRight_18 (by first | exact hB _ _ | exact hB0 _ _ | exact hBt _ _ | exact ⟨by omega, by omega⟩) (fun h18 => ?_) (fun h18 => ?_)
    · skip
      exact J43 _ (by omega)
    · skip
      refine pe_aload_n d_Q_makePlaceRight_21 rfl ?_
      refine pe_getr f_Q_20 d_Q_makePlaceRight_22 rfl rfl ?_
      refine pe_geti f_Q_116 d_Q_makePlaceRight_25 rfl rfl 2 rfl ?_
      refine pe_iload_n d_Q_makePlaceRight_28 rfl ?_
      refine pe_icmp_ne (t := 43) d_Q_makePlaceRight_29 (by first | exact hB _ _ | exact hB0 _ _ | exact hBt _ _ | exact ⟨by omega, by omega⟩) (by first | exact hB _ _ | exact hB0 _ _ | exact hBt _ _ | exact ⟨by omega, by omega⟩) (fun h29 => ?_) (fun h29 => ?_)
      · skip
        exact J43 _ (by omega)
      · skip
        refine pe_aload_n d_Q_makePlaceRight_32 rfl ?_
        refine pe_getr f_Q_20 d_Q_makePlaceRight_33 rfl rfl ?_
        refine pe_geti f_Q_119 d_Q_makePlaceRight_36 rfl rfl 3 rfl ?_
        refine pe_if_ne (t := 43) d_Q_makePlaceRight_39 (by first | exact hB _ _ | exact hB0 _ _ | exact hBt _ _ | exact ⟨by omega, by omega⟩) (fun h39 => ?_) (fun h39 => ?_)
        · skip
          exact J43 _ (by omega)
        · skip
          refine pe_rv d_Q_makePlaceRight_42 ?_
          exact ⟨hB, (fun b hb => rfl), by omega⟩
theorem t_Q_sendCharacter {σ : pe_H} {k : Int} (hB : pe_B σ) (hd : 1 ≤ σ 25 2 ∧ σ 25 2 ≤ 24 ∧ 1 ≤ σ 25 3 ∧ σ 25 3 ≤ 8) (ht : 0 ≤ σ 24 1 ∧ σ 24 1 ≤ 8 ∧ 0 ≤ σ 24 2 ∧ σ 24 2 ≤ 24) (hq : 0 ≤ σ 23 2 ∧ σ 23 2 ≤ 2048) (hk : pe_R k) : pe_M m_Q_sendCharacter [pe_r 23, pe_i k] σ (pe_qv (fun σ' => pe_B σ' ∧ (∀ b, b ∉ [23, 24, 26, 27, 28] → σ' b = σ b) ∧ (0 ≤ σ' 24 1 ∧ σ' 24 1 ≤ 8 ∧ 0 ≤ σ' 24 2 ∧ σ' 24 2 ≤ 24 ∧ 0 ≤ σ' 23 2 ∧ σ' 23 2 ≤ 2048))) := by
  refine pe_in0 (lv := [some (pe_r 23), some (pe_i k)]) ?_
  have hB0 := hB
  have J95 : ∀ τ : pe_H, (pe_B τ ∧ (∀ b, b ∉ [23, 28] → τ b = σ b) ∧ (0 ≤ τ 23 2 ∧ τ 23 2 ≤ 2048)) → pe_G m_Q_sendCharacter 95 [some (pe_r 23), some (pe_i k)] [] τ (pe_qv (fun σ' => pe_B σ' ∧ (∀ b, b ∉ [23, 24, 26, 27, 28] → σ' b = σ b) ∧ (0 ≤ σ' 24 1 ∧ σ' 24 1 ≤ 8 ∧ 0 ≤ σ' 24 2 ∧ σ' 24 2 ≤ 24 ∧ 0 ≤ σ' 23 2 ∧ σ' 23 2 ≤ 2048))) := by
    intro τ hI
    obtain ⟨hB, hfr, hX⟩ := hI
    have v_24_1 : τ 24 1 = σ 24 1 := congrFun (hfr 24 (by decide)) 1
    have v_24_2 : τ 24 2 = σ 24 2 := congrFun (hfr 24 (by decide)) 2
    have v_25_2 : τ 25 2 = σ 25 2 := congrFun (hfr 25 (by decide)) 2
    have v_25_3 : τ 25 3 = σ 25 3 := congrFun (hfr 25 (by decide)) 3
    have hBt := hB
    refine pe_aload_n d_Q_sendCharacter_95 rfl ?_
    refine pe_getr f_Q_20 d_Q_sendCharacter_96 rfl rfl ?_
    refine pe_iload_n d_Q_sendCharacter_99 rfl ?_
    refine pe_v1v d_Q_sendCharacter_100 c_Q_132 i_Z_write s_Z_write rfl rfl (t_Z_write hB (by omega) (by omega) (by first | exact hB _ _ | exact hB0 _ _ | exact hBt _ _ | exact ⟨by omega, by omega⟩)) (fun σ100 hz100 => ?_)
    obtain ⟨hB, f100, x100⟩ := hz100
    try have u100_0 : σ100 24 1 = τ 24 1 := by first | exact o100 1 (by decide) | exact congrFun (f100 24 (by decide)) 1
    try have u100_1 : σ100 24 2 = τ 24 2 := by first | exact o100 2 (by decide) | exact congrFun (f100 24 (by decide)) 2
    try have u100_2 : σ100 25 2 = τ 25 2 := by first | exact o100 2 (by decide) | exact congrFun (f100 25 (by decide)) 2
    try have u100_3 : σ100 25 3 = τ 25 3 := by first | exact o100 3 (by decide) | exact congrFun (f100 25 (by decide)) 3
    try have u100_4 : σ100 23 2 = τ 23 2 := by first | exact o100 2 (by decide) | exact congrFun (f100 23 (by decide)) 2
    refine pe_rv d_Q_sendCharacter_103 ?_
    exact ⟨hB, (fun b hb => (f100 b (by simp at hb ⊢; try omega)).trans (hfr b (by simp at hb ⊢; try omega))), by omega⟩
  refine pe_iload_n d_Q_sendCharacter_0 rfl ?_
  refine pe_iconst d_Q_sendCharacter_1 ?_
  refine pe_icmp_ne (t := 6) d_Q_sendCharacter_2 (by first | exact hB _ _ | exact hB0 _ _ | exact hBt _ _ | exact ⟨by omega, by omega⟩) (by first | exact hB _ _ | exact hB0 _ _ | exact hBt _ _ | exact ⟨by omega, by omega⟩) (fun h2 => ?_) (fun h2 => ?_)
  · skip
    refine pe_iload_n d_Q_sendCharacter_6 rfl ?_
    refine pe_sipush d_Q_sendCharacter_7 ?_
    refine pe_icmp_ge (t := 21) d_Q_sendCharacter_10 (by first | exact hB _ _ | exact hB0 _ _ | exact hBt _ _ | exact ⟨by omega, by omega⟩) (by first | exact hB _ _ | exact hB0 _ _ | exact hBt _ _ | exact ⟨by omega, by omega⟩) (fun h10 => ?_) (fun h10 => ?_)
    · skip
      refine pe_iload_n d_Q_sendCharacter_21 rfl ?_
      refine pe_sipush d_Q_sendCharacter_22 ?_
      refine pe_icmp_ge (t := 55) d_Q_sendCharacter_25 (by first | exact hB _ _ | exact hB0 _ _ | exact hBt _ _ | exact ⟨by omega, by omega⟩) (by first | exact hB _ _ | exact hB0 _ _ | exact hBt _ _ | exact ⟨by omega, by omega⟩) (fun h25 => ?_) (fun h25 => ?_)
      · skip
        refine pe_aload_n d_Q_sendCharacter_55 rfl ?_
        refine pe_sipush d_Q_sendCharacter_56 ?_
        refine pe_iload_n d_Q_sendCharacter_59 rfl ?_
        refine pe_sipush d_Q_sendCharacter_60 ?_
        refine pe_idiv d_Q_sendCharacter_63 (by first | exact hB _ _ | exact hB0 _ _ | exact hBt _ _ | exact ⟨by omega, by omega⟩) (by omega) (by first | exact hB _ _ | exact hB0 _ _ | exact hBt _ _ | exact ⟨by omega, by omega⟩) ?_
        refine pe_iadd d_Q_sendCharacter_64 ?_
        refine pe_any (fun v65 hv65 => ?_)
        refine pe_v1v d_Q_sendCharacter_65 c_Q_126 i_Q_put s_Q_put rfl rfl (t_Q_put hB (by omega) (by first | exact hB _ _ | exact hB0 _ _ | exact hBt _ _ | exact ⟨by omega, by omega⟩)) (fun σ65 hz65 => ?_)
        obtain ⟨hB, f65, x65⟩ := hz65
        try have u65_0 : σ65 24 1 = σ 24 1 := by first | exact o65 1 (by decide) | exact congrFun (f65 24 (by decide)) 1
        try have u65_1 : σ65 24 2 = σ 24 2 := by first | exact o65 2 (by decide) | exact congrFun (f65 24 (by decide)) 2
        try have u65_2 : σ65 25 2 = σ 25 2 := by first | exact o65 2 (by decide) | exact congrFun (f65 25 (by decide)) 2
        try have u65_3 : σ65 25 3 = σ 25 3 := by first | exact o65 3 (by decide) | exact congrFun (f65 25 (by decide)) 3
        try have u65_4 : σ65 23 2 = σ 23 2 := by first | exact o65 2 (by decide) | exact congrFun (f65 23 (by decide)) 2
        refine pe_aload_n d_Q_sendCharacter_68 rfl ?_
        refine pe_sipush d_Q_sendCharacter_69 ?_
        refine pe_iload_n d_Q_sendCharacter_72 rfl ?_
        refine pe_bipush d_Q_sendCharacter_73 ?_
        refine pe_idiv d_Q_sendCharacter_75 (by first | exact hB _ _ | exact hB0 _ _ | exact hBt _ _ | exact ⟨by omega, by omega⟩) (by omega) (by first | exact hB _ _ | exact hB0 _ _ | exact hBt _ _ | exact ⟨by omega, by omega⟩) ?_
        refine pe_any (fun v76 hv76 => ?_)
        refine pe_bipush d_Q_sendCharacter_76 ?_
        refine pe_irem d_Q_sendCharacter_78 (by first | exact hB _ _ | exact hB0 _ _ | exact hBt _ _ | exact ⟨by omega, by omega⟩) (by omega) (by first | exact hB _ _ | exact hB0 _ _ | exact hBt _ _ | exact ⟨by omega, by omega⟩) ?_
        refine pe_iadd d_Q_sendCharacter_79 ?_
        refine pe_any (fun v80 hv80 => ?_)
        refine pe_v1v d_Q_sendCharacter_80 c_Q_126 i_Q_put s_Q_put rfl rfl (t_Q_put hB (by omega) (by first | exact hB _ _ | exact hB0 _ _ | exact hBt _ _ | exact ⟨by omega, by omega⟩)) (fun σ80 hz80 => ?_)
        obtain ⟨hB, f80, x80⟩ := hz80
        try have u80_0 : σ80 24 1 = σ65 24 1 := by first | exact o80 1 (by decide) | exact congrFun (f80 24 (by decide)) 1
        try have u80_1 : σ80 24 2 = σ65 24 2 := by first | exact o80 2 (by decide) | exact congrFun (f80 24 (by decide)) 2
        try have u80_2 : σ80 25 2 = σ65 25 2 := by first | exact o80 2 (by decide) | exact congrFun (f80 25 (by decide)) 2
        try have u80_3 : σ80 25 3 = σ65 25 3 := by first | exact o80 3 (by decide) | exact congrFun (f80 25 (by decide)) 3
        try have u80_4 : σ80 23 2 = σ65 23 2 := by first | exact o80 2 (by decide) | exact congrFun (f80 23 (by decide)) 2
        refine pe_aload_n d_Q_sendCharacter_83 rfl ?_
        refine pe_sipush d_Q_sendCharacter_84 ?_
        refine pe_iload_n d_Q_sendCharacter_87 rfl ?_
        refine pe_bipush d_Q_sendCharacter_88 ?_
        refine pe_irem d_Q_sendCharacter_90 (by first | exact hB _ _ | exact hB0 _ _ | exact hBt _ _ | exact ⟨by omega, by omega⟩) (by omega) (by first | exact hB _ _ | exact hB0 _ _ | exact hBt _ _ | exact ⟨by omega, by omega⟩) ?_
        refine pe_iadd d_Q_sendCharacter_91 ?_
        refine pe_any (fun v92 hv92 => ?_)
        refine pe_v1v d_Q_sendCharacter_92 c_Q_126 i_Q_put s_Q_put rfl rfl (t_Q_put hB (by omega) (by first | exact hB _ _ | exact hB0 _ _ | exact hBt _ _ | exact ⟨by omega, by omega⟩)) (fun σ92 hz92 => ?_)
        obtain ⟨hB, f92, x92⟩ := hz92
        try have u92_0 : σ92 24 1 = σ80 24 1 := by first | exact o92 1 (by decide) | exact congrFun (f92 24 (by decide)) 1
        try have u92_1 : σ92 24 2 = σ80 24 2 := by first | exact o92 2 (by decide) | exact congrFun (f92 24 (by decide)) 2
        try have u92_2 : σ92 25 2 = σ80 25 2 := by first | exact o92 2 (by decide) | exact congrFun (f92 25 (by decide)) 2
        try have u92_3 : σ92 25 3 = σ80 25 3 := by first | exact o92 3 (by decide) | exact congrFun (f92 25 (by decide)) 3
        try have u92_4 : σ92 23 2 = σ80 23 2 := by first | exact o92 2 (by decide) | exact congrFun (f92 23 (by decide)) 2
        exact J95 _ ⟨hB, (fun b hb => (f92 b (by simp at hb ⊢; try omega)).trans ((f80 b (by simp at hb ⊢; try omega)).trans ((f65 b (by simp at hb ⊢; try omega)).trans (rfl)))), by omega⟩
      · skip
        refine pe_aload_n d_Q_sendCharacter_28 rfl ?_
        refine pe_sipush d_Q_sendCharacter_29 ?_
        refine pe_iload_n d_Q_sendCharacter_32 rfl ?_
        refine pe_bipush d_Q_sendCharacter_33 ?_
        refine pe_idiv d_Q_sendCharacter_35 (by first | exact hB _ _ | exact hB0 _ _ | exact hBt _ _ | exact ⟨by omega, by omega⟩) (by omega) (by first | exact hB _ _ | exact hB0 _ _ | exact hBt _ _ | exact ⟨by omega, by omega⟩) ?_
        refine pe_iadd d_Q_sendCharacter_36 ?_
        refine pe_any (fun v37 hv37 => ?_)
        refine pe_v1v d_Q_sendCharacter_37 c_Q_126 i_Q_put s_Q_put rfl rfl (t_Q_put hB (by omega) (by first | exact hB _ _ | exact hB0 _ _ | exact hBt _ _ | exact ⟨by omega, by omega⟩)) (fun σ37 hz37 => ?_)
        obtain ⟨hB, f37, x37⟩ := hz37
        try have u37_0 : σ37 24 1 = σ 24 1 := by first | exact o37 1 (by decide) | exact congrFun (f37 24 (by decide)) 1
        try have u37_1 : σ37 24 2 = σ 24 2 := by first | exact o37 2 (by decide) | exact congrFun (f37 24 (by decide)) 2
        try have u37_2 : σ37 25 2 = σ 25 2 := by first | exact o37 2 (by decide) | exact congrFun (f37 25 (by decide)) 2
        try have u37_3 : σ37 25 3 = σ 25 3 := by first | exact o37 3 (by decide) | exact congrFun (f37 25 (by decide)) 3
        try have u37_4 : σ37 23 2 = σ 23 2 := by first | exact o37 2 (by decide) | exact congrFun (f37 23 (by decide)) 2
        refine pe_aload_n d_Q_sendCharacter_40 rfl ?_
        refine pe_sipush d_Q_sendCharacter_41 ?_
        refine pe_iload_n d_Q_sendCharacter_44 rfl ?_
        refine pe_bipush d_Q_sendCharacter_45 ?_
        refine pe_irem d_Q_sendCharacter_47 (by first | exact hB _ _ | exact hB0 _ _ | exact hBt _ _ | exact ⟨by omega, by omega⟩) (by omega) (by first | exact hB _ _ | exact hB0 _ _ | exact hBt _ _ | exact ⟨by omega, by omega⟩) ?_
        refine pe_iadd d_Q_sendCharacter_48 ?_
        refine pe_any (fun v49 hv49 => ?_)
        refine pe_v1v d_Q_sendCharacter_49 c_Q_126 i_Q_put s_Q_put rfl rfl (t_Q_put hB (by omega) (by first | exact hB _ _ | exact hB0 _ _ | exact hBt _ _ | exact ⟨by omega, by omega⟩)) (fun σ49 hz49 => ?_)
        obtain ⟨hB, f49, x49⟩ := hz49
        try have u49_0 : σ49 24 1 = σ37 24 1 := by first | exact o49 1 (by decide) | exact congrFun (f49 24 (by decide)) 1
        try have u49_1 : σ49 24 2 = σ37 24 2 := by first | exact o49 2 (by decide) | exact congrFun (f49 24 (by decide)) 2
        try have u49_2 : σ49 25 2 = σ37 25 2 := by first | exact o49 2 (by decide) | exact congrFun (f49 25 (by decide)) 2
        try have u49_3 : σ49 25 3 = σ37 25 3 := by first | exact o49 3 (by decide) | exact congrFun (f49 25 (by decide)) 3
        try have u49_4 : σ49 23 2 = σ37 23 2 := by first | exact o49 2 (by decide) | exact congrFun (f49 23 (by decide)) 2
        refine pe_goto (t := 95) d_Q_sendCharacter_52 ?_
        exact J95 _ ⟨hB, (fun b hb => (f49 b (by simp at hb ⊢; try omega)).trans ((f37 b (by simp at hb ⊢; try omega)).trans (rfl))), by omega⟩
    · skip
      refine pe_aload_n d_Q_sendCharacter_13 rfl ?_
      refine pe_iload_n d_Q_sendCharacter_14 rfl ?_
      refine pe_any (fun v15 hv15 => ?_)
      refine pe_v1v d_Q_sendCharacter_15 c_Q_126 i_Q_put s_Q_put rfl rfl (t_Q_put hB (by omega) (by first | exact hB _ _ | exact hB0 _ _ | exact hBt _ _ | exact ⟨by omega, by omega⟩)) (fun σ15 hz15 => ?_)
      obtain ⟨hB, f15, x15⟩ := hz15
      try have u15_0 : σ15 24 1 = σ 24 1 := by first | exact o15 1 (by decide) | exact congrFun (f15 24 (by decide)) 1
      try have u15_1 : σ15 24 2 = σ 24 2 := by first | exact o15 2 (by decide) | exact congrFun (f15 24 (by decide)) 2
      try have u15_2 : σ15 25 2 = σ 25 2 := by first | exact o15 2 (by decide) | exact congrFun (f15 25 (by decide)) 2
      try have u15_3 : σ15 25 3 = σ 25 3 := by first | exact o15 3 (by decide) | exact congrFun (f15 25 (by decide)) 3
      try have u15_4 : σ15 23 2 = σ 23 2 := by first | exact o15 2 (by decide) | exact congrFun (f15 23 (by decide)) 2
      refine pe_goto (t := 95) d_Q_sendCharacter_18 ?_
      exact J95 _ ⟨hB, (fun b hb => (f15 b (by simp at hb ⊢; try omega)).trans (rfl)), by omega⟩
  · skip
    refine pe_rv d_Q_sendCharacter_5 ?_
    exact ⟨hB, (fun b hb => rfl), by omega⟩
theorem t_Q_begin {σ : pe_H} {z : Int} (hB : pe_B σ) (hd : 1 ≤ σ 25 2 ∧ σ 25 2 ≤ 24 ∧ 1 ≤ σ 25 3 ∧ σ 25 3 ≤ 8) (ht : 0 ≤ σ 24 1 ∧ σ 24 1 ≤ 8 ∧ 0 ≤ σ 24 2 ∧ σ 24 2 ≤ 24) (hq : 0 ≤ σ 23 2 ∧ σ 23 2 ≤ 2048) (hz : pe_R z) : pe_M m_Q_begin [pe_r 23, pe_i z] σ (pe_qv (fun σ' => pe_B σ' ∧ (∀ b, b ∉ [23, 24, 26, 27, 28] → σ' b = σ b) ∧ (0 ≤ σ' 24 1 ∧ σ' 24 1 ≤ 8 ∧ 0 ≤ σ' 24 2 ∧ σ' 24 2 ≤ 24 ∧ 0 ≤ σ' 23 2 ∧ σ' 23 2 ≤ 2048))) := by
  refine pe_in0 (lv := [some (pe_r 23), some (pe_i z)]) ?_
  have hB0 := hB
  refine pe_aload_n d_Q_begin_0 rfl ?_
  refine pe_iconst d_Q_begin_1 ?_
  refine pe_putiT f_Q_24 g_9_2 d_Q_begin_2 rfl rfl 2 rfl hB (by first | exact hB _ _ | exact hB0 _ _ | exact hBt _ _ | exact ⟨by omega, by omega⟩) (fun σ2 hB e2 o2 f2 => ?_)
  try have u2_0 : σ2 24 1 = σ 24 1 := by first | exact o2 1 (by decide) | exact congrFun (f2 24 (by decide)) 1
  try have u2_1 : σ2 24 2 = σ 24 2 := by first | exact o2 2 (by decide) | exact congrFun (f2 24 (by decide)) 2
  try have u2_2 : σ2 25 2 = σ 25 2 := by first | exact o2 2 (by decide) | exact congrFun (f2 25 (by decide)) 2
  try have u2_3 : σ2 25 3 = σ 25 3 := by first | exact o2 3 (by decide) | exact congrFun (f2 25 (by decide)) 3
  try have u2_4 : σ2 23 2 = σ 23 2 := by first | exact o2 2 (by decide) | exact congrFun (f2 23 (by decide)) 2
  refine pe_iload_n d_Q_begin_5 rfl ?_
  refine pe_if_eq (t := 29) d_Q_begin_6 (by first | exact hB _ _ | exact hB0 _ _ | exact hBt _ _ | exact ⟨by omega, by omega⟩) (fun h6 => ?_) (fun h6 => ?_)
  · skip
    refine pe_rv d_Q_begin_29 ?_
    exact ⟨hB, (fun b hb => (f2 b (by simp at hb ⊢; try omega)).trans (rfl)), by omega⟩
  · skip
    refine pe_aload_n d_Q_begin_9 rfl ?_
    refine pe_iconst d_Q_begin_10 ?_
    refine pe_v1v d_Q_begin_11 c_Q_28 i_Q_sendLook s_Q_sendLook rfl rfl (t_Q_sendLook hB (by omega) (by omega) (by omega) (by first | exact hB _ _ | exact hB0 _ _ | exact hBt _ _ | exact ⟨by omega, by omega⟩)) (fun σ11 hz11 => ?_)
    obtain ⟨hB, f11, x11⟩ := hz11
    try have u11_0 : σ11 24 1 = σ2 24 1 := by first | exact o11 1 (by decide) | exact congrFun (f11 24 (by decide)) 1
    try have u11_1 : σ11 24 2 = σ2 24 2 := by first | exact o11 2 (by decide) | exact congrFun (f11 24 (by decide)) 2
    try have u11_2 : σ11 25 2 = σ2 25 2 := by first | exact o11 2 (by decide) | exact congrFun (f11 25 (by decide)) 2
    try have u11_3 : σ11 25 3 = σ2 25 3 := by first | exact o11 3 (by decide) | exact congrFun (f11 25 (by decide)) 3
    try have u11_4 : σ11 23 2 = σ2 23 2 := by first | exact o11 2 (by decide) | exact congrFun (f11 23 (by decide)) 2
    refine pe_aload_n d_Q_begin_14 rfl ?_
    refine pe_iconst d_Q_begin_15 ?_
    refine pe_iconst d_Q_begin_16 ?_
    refine pe_bipush d_Q_begin_17 ?_
    refine pe_v3v d_Q_begin_19 c_Q_32 i_Q_sendSequence s_Q_sendSequence rfl rfl (t_Q_sendSequence hB (by omega) (by first | exact hB _ _ | exact hB0 _ _ | exact hBt _ _ | exact ⟨by omega, by omega⟩) (by first | exact hB _ _ | exact hB0 _ _ | exact hBt _ _ | exact ⟨by omega, by omega⟩) (by first | exact hB _ _ | exact hB0 _ _ | exact hBt _ _ | exact ⟨by omega, by omega⟩)) (fun σ19 hz19 => ?_)
    obtain ⟨hB, f19, x19⟩ := hz19
    try have u19_0 : σ19 24 1 = σ11 24 1 := by first | exact o19 1 (by decide) | exact congrFun (f19 24 (by decide)) 1
    try have u19_1 : σ19 24 2 = σ11 24 2 := by first | exact o19 2 (by decide) | exact congrFun (f19 24 (by decide)) 2
    try have u19_2 : σ19 25 2 = σ11 25 2 := by first | exact o19 2 (by decide) | exact congrFun (f19 25 (by decide)) 2
    try have u19_3 : σ19 25 3 = σ11 25 3 := by first | exact o19 3 (by decide) | exact congrFun (f19 25 (by decide)) 3
    try have u19_4 : σ19 23 2 = σ11 23 2 := by first | exact o19 2 (by decide) | exact congrFun (f19 23 (by decide)) 2
    refine pe_aload_n d_Q_begin_22 rfl ?_
    refine pe_getr f_Q_20 d_Q_begin_23 rfl rfl ?_
    refine pe_v0v d_Q_begin_26 c_Q_36 i_Z_eraseAll s_Z_eraseAll rfl rfl (t_Z_eraseAll hB (by omega) (by omega)) (fun σ26 hz26 => ?_)
    obtain ⟨hB, f26, x26⟩ := hz26
    try have u26_0 : σ26 24 1 = σ19 24 1 := by first | exact o26 1 (by decide) | exact congrFun (f26 24 (by decide)) 1
    try have u26_1 : σ26 24 2 = σ19 24 2 := by first | exact o26 2 (by decide) | exact congrFun (f26 24 (by decide)) 2
    try have u26_2 : σ26 25 2 = σ19 25 2 := by first | exact o26 2 (by decide) | exact congrFun (f26 25 (by decide)) 2
    try have u26_3 : σ26 25 3 = σ19 25 3 := by first | exact o26 3 (by decide) | exact congrFun (f26 25 (by decide)) 3
    try have u26_4 : σ26 23 2 = σ19 23 2 := by first | exact o26 2 (by decide) | exact congrFun (f26 23 (by decide)) 2
    refine pe_rv d_Q_begin_29 ?_
    exact ⟨hB, (fun b hb => (f26 b (by simp at hb ⊢; try omega)).trans ((f19 b (by simp at hb ⊢; try omega)).trans ((f11 b (by simp at hb ⊢; try omega)).trans ((f2 b (by simp at hb ⊢; try omega)).trans (rfl))))), by omega⟩
theorem t_Q_sendCluster {σ : pe_H} {r c u w : Int} (hB : pe_B σ) (hd : 1 ≤ σ 25 2 ∧ σ 25 2 ≤ 24 ∧ 1 ≤ σ 25 3 ∧ σ 25 3 ≤ 8) (ht : 0 ≤ σ 24 1 ∧ σ 24 1 ≤ 8 ∧ 0 ≤ σ 24 2 ∧ σ 24 2 ≤ 24) (hq : 0 ≤ σ 23 2 ∧ σ 23 2 ≤ 2048) (hr : 0 ≤ r ∧ r ≤ 8) (hc : 0 ≤ c ∧ c ≤ 24) (hu : pe_R u) (hw : pe_R w) : pe_M m_Q_sendCluster [pe_r 23, pe_i r, pe_i c, pe_i u, pe_i w] σ (pe_qv (fun σ' => pe_B σ' ∧ (∀ b, b ∉ [23, 24, 26, 27, 28] → σ' b = σ b) ∧ (0 ≤ σ' 24 1 ∧ σ' 24 1 ≤ 8 ∧ 0 ≤ σ' 24 2 ∧ σ' 24 2 ≤ 24 ∧ 0 ≤ σ' 23 2 ∧ σ' 23 2 ≤ 2048))) := by
  refine pe_in0 (lv := [some (pe_r 23), some (pe_i r), some (pe_i c), some (pe_i u), some (pe_i w), none]) ?_
  have hB0 := hB
  have hT := pe_tm u (b := 65536) (by omega)
  have J47 : ∀ τ : pe_H, (pe_B τ ∧ (∀ b, b ∉ [23, 24, 28] → τ b = σ b) ∧ (0 ≤ τ 24 1 ∧ τ 24 1 ≤ 8 ∧ 0 ≤ τ 24 2 ∧ τ 24 2 ≤ 24 ∧ 0 ≤ τ 23 2 ∧ τ 23 2 ≤ 2048)) → pe_G m_Q_sendCluster 47 [some (pe_r 23), some (pe_i r), some (pe_i c), some (pe_i u), some (pe_i w), some (pe_i (u.tmod 65536))] [] τ (pe_qv (fun σ' => pe_B σ' ∧ (∀ b, b ∉ [23, 24, 26, 27, 28] → σ' b = σ b) ∧ (0 ≤ σ' 24 1 ∧ σ' 24 1 ≤ 8 ∧ 0 ≤ σ' 24 2 ∧ σ' 24 2 ≤ 24 ∧ 0 ≤ σ' 23 2 ∧ σ' 23 2 ≤ 2048))) := by
    intro τ hI
    obtain ⟨hB, hfr, hX⟩ := hI
    have v_25_2 : τ 25 2 = σ 25 2 := congrFun (hfr 25 (by decide)) 2
    have v_25_3 : τ 25 3 = σ 25 3 := congrFun (hfr 25 (by decide)) 3
    have hBt := hB
    refine pe_aload_n d_Q_sendCluster_47 rfl ?_
    refine pe_iload d_Q_sendCluster_48 rfl ?_
    refine pe_v1v d_Q_sendCluster_50 c_Q_104 i_Q_sendCharacter s_Q_sendCharacter rfl rfl (t_Q_sendCharacter hB (by omega) (by omega) (by omega) (by first | exact hB _ _ | exact hB0 _ _ | exact hBt _ _ | exact ⟨by omega, by omega⟩)) (fun σ50 hz50 => ?_)
    obtain ⟨hB, f50, x50⟩ := hz50
    try have u50_0 : σ50 24 1 = τ 24 1 := by first | exact o50 1 (by decide) | exact congrFun (f50 24 (by decide)) 1
    try have u50_1 : σ50 24 2 = τ 24 2 := by first | exact o50 2 (by decide) | exact congrFun (f50 24 (by decide)) 2
    try have u50_2 : σ50 25 2 = τ 25 2 := by first | exact o50 2 (by decide) | exact congrFun (f50 25 (by decide)) 2
    try have u50_3 : σ50 25 3 = τ 25 3 := by first | exact o50 3 (by decide) | exact congrFun (f50 25 (by decide)) 3
    try have u50_4 : σ50 23 2 = τ 23 2 := by first | exact o50 2 (by decide) | exact congrFun (f50 23 (by decide)) 2
    refine pe_aload_n d_Q_sendCluster_53 rfl ?_
    refine pe_iload_n d_Q_sendCluster_54 rfl ?_
    refine pe_s1p d_Q_sendCluster_55 c_Q_107 z_C_firstMarkOf (t_C_firstMarkOf (by first | exact hB _ _ | exact hB0 _ _ | exact hBt _ _ | exact ⟨by omega, by omega⟩)) (fun z55 hz55 => ?_)
    refine pe_v1v d_Q_sendCluster_58 c_Q_104 i_Q_sendCharacter s_Q_sendCharacter rfl rfl (t_Q_sendCharacter hB (by omega) (by omega) (by omega) (by first | exact hB _ _ | exact hB0 _ _ | exact hBt _ _ | exact ⟨by omega, by omega⟩)) (fun σ58 hz58 => ?_)
    obtain ⟨hB, f58, x58⟩ := hz58
    try have u58_0 : σ58 24 1 = σ50 24 1 := by first | exact o58 1 (by decide) | exact congrFun (f58 24 (by decide)) 1
    try have u58_1 : σ58 24 2 = σ50 24 2 := by first | exact o58 2 (by decide) | exact congrFun (f58 24 (by decide)) 2
    try have u58_2 : σ58 25 2 = σ50 25 2 := by first | exact o58 2 (by decide) | exact congrFun (f58 25 (by decide)) 2
    try have u58_3 : σ58 25 3 = σ50 25 3 := by first | exact o58 3 (by decide) | exact congrFun (f58 25 (by decide)) 3
    try have u58_4 : σ58 23 2 = σ50 23 2 := by first | exact o58 2 (by decide) | exact congrFun (f58 23 (by decide)) 2
    refine pe_aload_n d_Q_sendCluster_61 rfl ?_
    refine pe_iload_n d_Q_sendCluster_62 rfl ?_
    refine pe_s1p d_Q_sendCluster_63 c_Q_110 z_C_secondMarkOf (t_C_secondMarkOf (by first | exact hB _ _ | exact hB0 _ _ | exact hBt _ _ | exact ⟨by omega, by omega⟩)) (fun z63 hz63 => ?_)
    refine pe_v1v d_Q_sendCluster_66 c_Q_104 i_Q_sendCharacter s_Q_sendCharacter rfl rfl (t_Q_sendCharacter hB (by omega) (by omega) (by omega) (by first | exact hB _ _ | exact hB0 _ _ | exact hBt _ _ | exact ⟨by omega, by omega⟩)) (fun σ66 hz66 => ?_)
    obtain ⟨hB, f66, x66⟩ := hz66
    try have u66_0 : σ66 24 1 = σ58 24 1 := by first | exact o66 1 (by decide) | exact congrFun (f66 24 (by decide)) 1
    try have u66_1 : σ66 24 2 = σ58 24 2 := by first | exact o66 2 (by decide) | exact congrFun (f66 24 (by decide)) 2
    try have u66_2 : σ66 25 2 = σ58 25 2 := by first | exact o66 2 (by decide) | exact congrFun (f66 25 (by decide)) 2
    try have u66_3 : σ66 25 3 = σ58 25 3 := by first | exact o66 3 (by decide) | exact congrFun (f66 25 (by decide)) 3
    try have u66_4 : σ66 23 2 = σ58 23 2 := by first | exact o66 2 (by decide) | exact congrFun (f66 23 (by decide)) 2
    refine pe_rv d_Q_sendCluster_69 ?_
    exact ⟨hB, (fun b hb => (f66 b (by simp at hb ⊢; try omega)).trans ((f58 b (by simp at hb ⊢; try omega)).trans ((f50 b (by simp at hb ⊢; try omega)).trans (hfr b (by simp at hb ⊢; try omega))))), by omega⟩
  have J29 : ∀ τ : pe_H, (pe_B τ ∧ (∀ b, b ∉ [23, 24, 28] → τ b = σ b) ∧ (0 ≤ τ 24 1 ∧ τ 24 1 ≤ 8 ∧ 0 ≤ τ 24 2 ∧ τ 24 2 ≤ 24 ∧ 0 ≤ τ 23 2 ∧ τ 23 2 ≤ 2048)) → pe_G m_Q_sendCluster 29 [some (pe_r 23), some (pe_i r), some (pe_i c), some (pe_i u), some (pe_i w), some (pe_i (u.tmod 65536))] [] τ (pe_qv (fun σ' => pe_B σ' ∧ (∀ b, b ∉ [23, 24, 26, 27, 28] → σ' b = σ b) ∧ (0 ≤ σ' 24 1 ∧ σ' 24 1 ≤ 8 ∧ 0 ≤ σ' 24 2 ∧ σ' 24 2 ≤ 24 ∧ 0 ≤ σ' 23 2 ∧ σ' 23 2 ≤ 2048))) := by
    intro τ hI
    obtain ⟨hB, hfr, hX⟩ := hI
    have v_25_2 : τ 25 2 = σ 25 2 := congrFun (hfr 25 (by decide)) 2
    have v_25_3 : τ 25 3 = σ 25 3 := congrFun (hfr 25 (by decide)) 3
    have hBt := hB
    refine pe_aload_n d_Q_sendCluster_29 rfl ?_
    refine pe_getr f_Q_20 d_Q_sendCluster_30 rfl rfl ?_
    refine pe_geti f_Q_101 d_Q_sendCluster_33 rfl rfl 4 rfl ?_
    refine pe_iload d_Q_sendCluster_36 rfl ?_
    refine pe_icmp_eq (t := 47) d_Q_sendCluster_38 (by first | exact hB _ _ | exact hB0 _ _ | exact hBt _ _ | exact ⟨by omega, by omega⟩) (by first | exact hB _ _ | exact hB0 _ _ | exact hBt _ _ | exact ⟨by omega, by omega⟩) (fun h38 => ?_) (fun h38 => ?_)
    · skip
      exact J47 _ ⟨hB, (fun b hb => hfr b (by simp at hb ⊢; try omega)), by omega⟩
    · skip
      refine pe_aload_n d_Q_sendCluster_41 rfl ?_
      refine pe_iload d_Q_sendCluster_42 rfl ?_
      refine pe_v1v d_Q_sendCluster_44 c_Q_28 i_Q_sendLook s_Q_sendLook rfl rfl (t_Q_sendLook hB (by omega) (by omega) (by omega) (by first | exact hB _ _ | exact hB0 _ _ | exact hBt _ _ | exact ⟨by omega, by omega⟩)) (fun σ44 hz44 => ?_)
      obtain ⟨hB, f44, x44⟩ := hz44
      try have u44_0 : σ44 24 1 = τ 24 1 := by first | exact o44 1 (by decide) | exact congrFun (f44 24 (by decide)) 1
      try have u44_1 : σ44 24 2 = τ 24 2 := by first | exact o44 2 (by decide) | exact congrFun (f44 24 (by decide)) 2
      try have u44_2 : σ44 25 2 = τ 25 2 := by first | exact o44 2 (by decide) | exact congrFun (f44 25 (by decide)) 2
      try have u44_3 : σ44 25 3 = τ 25 3 := by first | exact o44 3 (by decide) | exact congrFun (f44 25 (by decide)) 3
      try have u44_4 : σ44 23 2 = τ 23 2 := by first | exact o44 2 (by decide) | exact congrFun (f44 23 (by decide)) 2
      exact J47 _ ⟨hB, (fun b hb => (f44 b (by simp at hb ⊢; try omega)).trans (hfr b (by simp at hb ⊢; try omega))), by omega⟩
  refine pe_iload_n d_Q_sendCluster_0 rfl ?_
  refine pe_s1p d_Q_sendCluster_1 c_Q_88 z_C_characterOf (t_C_characterOf (by first | exact hB _ _ | exact hB0 _ _ | exact hBt _ _ | exact ⟨by omega, by omega⟩)) (fun z1 hz1 => ?_)
  subst hz1
  refine pe_istore d_Q_sendCluster_4 ?_
  refine pe_iload d_Q_sendCluster_6 rfl ?_
  refine pe_s1p d_Q_sendCluster_8 c_Q_94 z_C_isMark (t_C_isMark (by first | exact hB _ _ | exact hB0 _ _ | exact hBt _ _ | exact ⟨by omega, by omega⟩)) (fun z8 hz8 => ?_)
  refine pe_if_eq (t := 23) d_Q_sendCluster_11 (by first | exact hB _ _ | exact hB0 _ _ | exact hBt _ _ | exact ⟨by omega, by omega⟩) (fun h11 => ?_) (fun h11 => ?_)
  · skip
    refine pe_aload_n d_Q_sendCluster_23 rfl ?_
    refine pe_iload_n d_Q_sendCluster_24 rfl ?_
    refine pe_iload_n d_Q_sendCluster_25 rfl ?_
    refine pe_v2v d_Q_sendCluster_26 c_Q_67 i_Q_makePlaceRight s_Q_makePlaceRight rfl rfl (t_Q_makePlaceRight hB (by omega) (by omega) (by omega) (by omega) (by omega)) (fun σ26 hz26 => ?_)
    obtain ⟨hB, f26, x26⟩ := hz26
    try have u26_0 : σ26 24 1 = σ 24 1 := by first | exact o26 1 (by decide) | exact congrFun (f26 24 (by decide)) 1
    try have u26_1 : σ26 24 2 = σ 24 2 := by first | exact o26 2 (by decide) | exact congrFun (f26 24 (by decide)) 2
    try have u26_2 : σ26 25 2 = σ 25 2 := by first | exact o26 2 (by decide) | exact congrFun (f26 25 (by decide)) 2
    try have u26_3 : σ26 25 3 = σ 25 3 := by first | exact o26 3 (by decide) | exact congrFun (f26 25 (by decide)) 3
    try have u26_4 : σ26 23 2 = σ 23 2 := by first | exact o26 2 (by decide) | exact congrFun (f26 23 (by decide)) 2
    exact J29 _ ⟨hB, (fun b hb => (f26 b (by simp at hb ⊢; try omega)).trans (rfl)), by omega⟩
  · skip
    refine pe_aload_n d_Q_sendCluster_14 rfl ?_
    refine pe_iload_n d_Q_sendCluster_15 rfl ?_
    refine pe_iload_n d_Q_sendCluster_16 rfl ?_
    refine pe_v2v d_Q_sendCluster_17 c_Q_98 i_Q_sendPlace s_Q_sendPlace rfl rfl (t_Q_sendPlace hB (by omega) (by omega) (by omega) (by omega) (by omega)) (fun σ17 hz17 => ?_)
    obtain ⟨hB, f17, x17⟩ := hz17
    try have u17_0 : σ17 24 1 = σ 24 1 := by first | exact o17 1 (by decide) | exact congrFun (f17 24 (by decide)) 1
    try have u17_1 : σ17 24 2 = σ 24 2 := by first | exact o17 2 (by decide) | exact congrFun (f17 24 (by decide)) 2
    try have u17_2 : σ17 25 2 = σ 25 2 := by first | exact o17 2 (by decide) | exact congrFun (f17 25 (by decide)) 2
    try have u17_3 : σ17 25 3 = σ 25 3 := by first | exact o17 3 (by decide) | exact congrFun (f17 25 (by decide)) 3
    try have u17_4 : σ17 23 2 = σ 23 2 := by first | exact o17 2 (by decide) | exact congrFun (f17 23 (by decide)) 2
    refine pe_goto (t := 29) d_Q_sendCluster_20 ?_
    exact J29 _ ⟨hB, (fun b hb => (f17 b (by simp at hb ⊢; try omega)).trans (rfl)), by omega⟩
theorem t_Q_differs {σ : pe_H} {r c : Int} (hB : pe_B σ) (hd : 1 ≤ σ 25 2 ∧ σ 25 2 ≤ 24 ∧ 1 ≤ σ 25 3 ∧ σ 25 3 ≤ 8) (hw : 1 ≤ σ 18 2 ∧ σ 18 2 ≤ 24 ∧ 1 ≤ σ 18 3 ∧ σ 18 3 ≤ 8) (hr : pe_R r) (hc : pe_R c) : pe_M m_Q_differs [pe_r 23, pe_r 18, pe_i r, pe_i c] σ (pe_qp σ (fun z => z = 0 ∨ z = 1)) := by
  refine pe_in0 (lv := [some (pe_r 23), some (pe_r 18), some (pe_i r), some (pe_i c)]) ?_
  have hB0 := hB
  refine pe_aload_n d_Q_differs_0 rfl ?_
  refine pe_iload_n d_Q_differs_1 rfl ?_
  refine pe_iload_n d_Q_differs_2 rfl ?_
  refine pe_v2p d_Q_differs_3 c_Q_46 i_G_clusterAt s_G_clusterAt rfl rfl (t_G_clusterAt_18 hB (by omega) (by first | exact hB _ _ | exact hB0 _ _ | exact hBt _ _ | exact ⟨by omega, by omega⟩) (by first | exact hB _ _ | exact hB0 _ _ | exact hBt _ _ | exact ⟨by omega, by omega⟩)) (fun z3 hz3 => ?_)
  refine pe_aload_n d_Q_differs_6 rfl ?_
  refine pe_getr f_Q_20 d_Q_differs_7 rfl rfl ?_
  refine pe_getr f_Q_73 d_Q_differs_10 rfl rfl ?_
  refine pe_iload_n d_Q_differs_13 rfl ?_
  refine pe_iload_n d_Q_differs_14 rfl ?_
  refine pe_v2p d_Q_differs_15 c_Q_46 i_G_clusterAt s_G_clusterAt rfl rfl (t_G_clusterAt_25 hB (by omega) (by first | exact hB _ _ | exact hB0 _ _ | exact hBt _ _ | exact ⟨by omega, by omega⟩) (by first | exact hB _ _ | exact hB0 _ _ | exact hBt _ _ | exact ⟨by omega, by omega⟩)) (fun z15 hz15 => ?_)
  refine pe_icmp_ne (t := 42) d_Q_differs_18 (by first | exact hB _ _ | exact hB0 _ _ | exact hBt _ _ | exact ⟨by omega, by omega⟩) (by first | exact hB _ _ | exact hB0 _ _ | exact hBt _ _ | exact ⟨by omega, by omega⟩) (fun h18 => ?_) (fun h18 => ?_)
  · skip
    refine pe_iconst d_Q_differs_42 ?_
    refine pe_goto (t := 47) d_Q_differs_43 ?_
    refine pe_rz d_Q_differs_47 (by first | exact Or.inl rfl | exact Or.inr rfl | omega) ?_
    exact ⟨rfl, by (try dsimp only); omega⟩
  · skip
    refine pe_aload_n d_Q_differs_21 rfl ?_
    refine pe_iload_n d_Q_differs_22 rfl ?_
    refine pe_iload_n d_Q_differs_23 rfl ?_
    refine pe_v2p d_Q_differs_24 c_Q_60 i_G_lookAt s_G_lookAt rfl rfl (t_G_lookAt_18 hB (by omega) (by first | exact hB _ _ | exact hB0 _ _ | exact hBt _ _ | exact ⟨by omega, by omega⟩) (by first | exact hB _ _ | exact hB0 _ _ | exact hBt _ _ | exact ⟨by omega, by omega⟩)) (fun z24 hz24 => ?_)
    refine pe_aload_n d_Q_differs_27 rfl ?_
    refine pe_getr f_Q_20 d_Q_differs_28 rfl rfl ?_
    refine pe_getr f_Q_73 d_Q_differs_31 rfl rfl ?_
    refine pe_iload_n d_Q_differs_34 rfl ?_
    refine pe_iload_n d_Q_differs_35 rfl ?_
    refine pe_v2p d_Q_differs_36 c_Q_60 i_G_lookAt s_G_lookAt rfl rfl (t_G_lookAt_25 hB (by omega) (by first | exact hB _ _ | exact hB0 _ _ | exact hBt _ _ | exact ⟨by omega, by omega⟩) (by first | exact hB _ _ | exact hB0 _ _ | exact hBt _ _ | exact ⟨by omega, by omega⟩)) (fun z36 hz36 => ?_)
    refine pe_icmp_eq (t := 46) d_Q_differs_39 (by first | exact hB _ _ | exact hB0 _ _ | exact hBt _ _ | exact ⟨by omega, by omega⟩) (by first | exact hB _ _ | exact hB0 _ _ | exact hBt _ _ | exact ⟨by omega, by omega⟩) (fun h39 => ?_) (fun h39 => ?_)
    · skip
      refine pe_iconst d_Q_differs_46 ?_
      refine pe_rz d_Q_differs_47 (by first | exact Or.inl rfl | exact Or.inr rfl | omega) ?_
      exact ⟨rfl, by (try dsimp only); omega⟩
    · skip
      refine pe_iconst d_Q_differs_42 ?_
      refine pe_goto (t := 47) d_Q_differs_43 ?_
      refine pe_rz d_Q_differs_47 (by first | exact Or.inl rfl | exact Or.inr rfl | omega) ?_
      exact ⟨rfl, by (try dsimp only); omega⟩
theorem t_Q_firstDifference {σ : pe_H} {r : Int} (hB : pe_B σ) (hd : 1 ≤ σ 25 2 ∧ σ 25 2 ≤ 24 ∧ 1 ≤ σ 25 3 ∧ σ 25 3 ≤ 8) (hw : 1 ≤ σ 18 2 ∧ σ 18 2 ≤ 24 ∧ 1 ≤ σ 18 3 ∧ σ 18 3 ≤ 8) (hr : 0 ≤ r ∧ r ≤ 8) : pe_M m_Q_firstDifference [pe_r 23, pe_r 18, pe_i r] σ (pe_qp σ (fun z => -1 ≤ z ∧ z < σ 18 2)) := by
  refine pe_in0 (lv := [some (pe_r 23), some (pe_r 18), some (pe_i r), none]) ?_
  have hB0 := hB
  have J2 : ∀ f : Int, (0 ≤ f ∧ f ≤ σ 18 2) → pe_G m_Q_firstDifference 2 [some (pe_r 23), some (pe_r 18), some (pe_i r), some (pe_i f)] [] σ (pe_qp σ (fun z => -1 ≤ z ∧ z < σ 18 2)) := by
    refine pe_loop (fun f : Int => (100 - f).toNat) _ _ ?_
    intro f hI ih
    refine pe_iload_n d_Q_firstDifference_2 rfl ?_
    refine pe_aload_n d_Q_firstDifference_3 rfl ?_
    refine pe_geti f_Q_77 d_Q_firstDifference_4 rfl rfl 2 rfl ?_
    refine pe_icmp_ge (t := 28) d_Q_firstDifference_7 (by first | exact hB _ _ | exact hB0 _ _ | exact hBt _ _ | exact ⟨by omega, by omega⟩) (by first | exact hB _ _ | exact hB0 _ _ | exact hBt _ _ | exact ⟨by omega, by omega⟩) (fun h7 => ?_) (fun h7 => ?_)
    · skip
      refine pe_iconst d_Q_firstDifference_28 ?_
      refine pe_ri d_Q_firstDifference_29 ?_
      exact ⟨rfl, by (try dsimp only); omega⟩
    · skip
      refine pe_aload_n d_Q_firstDifference_10 rfl ?_
      refine pe_aload_n d_Q_firstDifference_11 rfl ?_
      refine pe_iload_n d_Q_firstDifference_12 rfl ?_
      refine pe_iload_n d_Q_firstDifference_13 rfl ?_
      refine pe_v3p d_Q_firstDifference_14 c_Q_80 i_Q_differs s_Q_differs rfl rfl (t_Q_differs hB (by omega) (by omega) (by first | exact hB _ _ | exact hB0 _ _ | exact hBt _ _ | exact ⟨by omega, by omega⟩) (by first | exact hB _ _ | exact hB0 _ _ | exact hBt _ _ | exact ⟨by omega, by omega⟩)) (fun z14 hz14 => ?_)
      refine pe_if_eq (t := 22) d_Q_firstDifference_17 (by first | exact hB _ _ | exact hB0 _ _ | exact hBt _ _ | exact ⟨by omega, by omega⟩) (fun h17 => ?_) (fun h17 => ?_)
      · skip
        refine pe_iinc d_Q_firstDifference_22 rfl ?_
        refine pe_goto (t := 2) d_Q_firstDifference_25 ?_
        exact ih _ (by omega) (by omega)
      · skip
        refine pe_iload_n d_Q_firstDifference_20 rfl ?_
        refine pe_ri d_Q_firstDifference_21 ?_
        exact ⟨rfl, by (try dsimp only); omega⟩
  refine pe_iconst d_Q_firstDifference_0 ?_
  refine pe_istore_n d_Q_firstDifference_1 ?_
  exact J2 _ (by omega)
theorem t_Q_lastDifference {σ : pe_H} {r : Int} (hB : pe_B σ) (hd : 1 ≤ σ 25 2 ∧ σ 25 2 ≤ 24 ∧ 1 ≤ σ 25 3 ∧ σ 25 3 ≤ 8) (hw : 1 ≤ σ 18 2 ∧ σ 18 2 ≤ 24 ∧ 1 ≤ σ 18 3 ∧ σ 18 3 ≤ 8) (hr : 0 ≤ r ∧ r ≤ 8) : pe_M m_Q_lastDifference [pe_r 23, pe_r 18, pe_i r] σ (pe_qp σ (fun z => -1 ≤ z ∧ z < σ 18 2)) := by
  refine pe_in0 (lv := [some (pe_r 23), some (pe_r 18), some (pe_i r), none]) ?_
  have hB0 := hB
  have J7 : ∀ f : Int, (-1 ≤ f ∧ f < σ 18 2) → pe_G m_Q_lastDifference 7 [some (pe_r 23), some (pe_r 18), some (pe_i r), some (pe_i f)] [] σ (pe_qp σ (fun z => -1 ≤ z ∧ z < σ 18 2)) := by
    refine pe_loop (fun f : Int => (100 + f).toNat) _ _ ?_
    intro f hI ih
    refine pe_iload_n d_Q_lastDifference_7 rfl ?_
    refine pe_if_lt (t := 29) d_Q_lastDifference_8 (by first | exact hB _ _ | exact hB0 _ _ | exact hBt _ _ | exact ⟨by omega, by omega⟩) (fun h8 => ?_) (fun h8 => ?_)
    · skip
      refine pe_iconst d_Q_lastDifference_29 ?_
      refine pe_ri d_Q_lastDifference_30 ?_
      exact ⟨rfl, by (try dsimp only); omega⟩
    · skip
      refine pe_aload_n d_Q_lastDifference_11 rfl ?_
      refine pe_aload_n d_Q_lastDifference_12 rfl ?_
      refine pe_iload_n d_Q_lastDifference_13 rfl ?_
      refine pe_iload_n d_Q_lastDifference_14 rfl ?_
      refine pe_v3p d_Q_lastDifference_15 c_Q_80 i_Q_differs s_Q_differs rfl rfl (t_Q_differs hB (by omega) (by omega) (by first | exact hB _ _ | exact hB0 _ _ | exact hBt _ _ | exact ⟨by omega, by omega⟩) (by first | exact hB _ _ | exact hB0 _ _ | exact hBt _ _ | exact ⟨by omega, by omega⟩)) (fun z15 hz15 => ?_)
      refine pe_if_eq (t := 23) d_Q_lastDifference_18 (by first | exact hB _ _ | exact hB0 _ _ | exact hBt _ _ | exact ⟨by omega, by omega⟩) (fun h18 => ?_) (fun h18 => ?_)
      · skip
        refine pe_iinc d_Q_lastDifference_23 rfl ?_
        refine pe_goto (t := 7) d_Q_lastDifference_26 ?_
        exact ih _ (by omega) (by omega)
      · skip
        refine pe_iload_n d_Q_lastDifference_21 rfl ?_
        refine pe_ri d_Q_lastDifference_22 ?_
        exact ⟨rfl, by (try dsimp only); omega⟩
  refine pe_aload_n d_Q_lastDifference_0 rfl ?_
  refine pe_geti f_Q_77 d_Q_lastDifference_1 rfl rfl 2 rfl ?_
  refine pe_iconst d_Q_lastDifference_4 ?_
  refine pe_isub d_Q_lastDifference_5 ?_
  refine pe_istore_n d_Q_lastDifference_6 ?_
  exact J7 _ (by omega)
theorem t_Q_blankBeginning {σ : pe_H} {r : Int} (hB : pe_B σ) (hw : 1 ≤ σ 18 2 ∧ σ 18 2 ≤ 24 ∧ 1 ≤ σ 18 3 ∧ σ 18 3 ≤ 8) (hr : 0 ≤ r ∧ r ≤ 8) : pe_M m_Q_blankBeginning [pe_r 18, pe_i r] σ (pe_qp σ (fun z => 0 ≤ z ∧ z ≤ σ 18 2)) := by
  refine pe_in0 (lv := [some (pe_r 18), some (pe_i r), none]) ?_
  have hB0 := hB
  have J5 : ∀ f : Int, (0 ≤ f ∧ f ≤ σ 18 2) → pe_G m_Q_blankBeginning 5 [some (pe_r 18), some (pe_i r), some (pe_i f)] [] σ (pe_qp σ (fun z => 0 ≤ z ∧ z ≤ σ 18 2)) := by
    refine pe_loop (fun f : Int => (100 + f).toNat) _ _ ?_
    intro f hI ih
    refine pe_iload_n d_Q_blankBeginning_5 rfl ?_
    refine pe_if_le (t := 26) d_Q_blankBeginning_6 (by first | exact hB _ _ | exact hB0 _ _ | exact hBt _ _ | exact ⟨by omega, by omega⟩) (fun h6 => ?_) (fun h6 => ?_)
    · skip
      refine pe_iload_n d_Q_blankBeginning_26 rfl ?_
      refine pe_ri d_Q_blankBeginning_27 ?_
      exact ⟨rfl, by (try dsimp only); omega⟩
    · skip
      refine pe_aload_n d_Q_blankBeginning_9 rfl ?_
      refine pe_iload_n d_Q_blankBeginning_10 rfl ?_
      refine pe_iload_n d_Q_blankBeginning_11 rfl ?_
      refine pe_iconst d_Q_blankBeginning_12 ?_
      refine pe_isub d_Q_blankBeginning_13 ?_
      refine pe_v2p d_Q_blankBeginning_14 c_Q_84 i_G_isBlank s_G_isBlank rfl rfl (t_G_isBlank_18 hB (by omega) (by first | exact hB _ _ | exact hB0 _ _ | exact hBt _ _ | exact ⟨by omega, by omega⟩) (by first | exact hB _ _ | exact hB0 _ _ | exact hBt _ _ | exact ⟨by omega, by omega⟩)) (fun z14 hz14 => ?_)
      refine pe_if_eq (t := 26) d_Q_blankBeginning_17 (by first | exact hB _ _ | exact hB0 _ _ | exact hBt _ _ | exact ⟨by omega, by omega⟩) (fun h17 => ?_) (fun h17 => ?_)
      · skip
        refine pe_iload_n d_Q_blankBeginning_26 rfl ?_
        refine pe_ri d_Q_blankBeginning_27 ?_
        exact ⟨rfl, by (try dsimp only); omega⟩
      · skip
        refine pe_iinc d_Q_blankBeginning_20 rfl ?_
        refine pe_goto (t := 5) d_Q_blankBeginning_23 ?_
        exact ih _ (by omega) (by omega)
  refine pe_aload_n d_Q_blankBeginning_0 rfl ?_
  refine pe_geti f_Q_77 d_Q_blankBeginning_1 rfl rfl 2 rfl ?_
  refine pe_istore_n d_Q_blankBeginning_4 ?_
  exact J5 _ (by omega)
