/-! p1: the status row of the reference, composing, drawing -/
theorem y_M_status {σ : pe_H} {c h : Int} (hB : pe_B σ) (hW : 1 ≤ σ 29 21 ∧ σ 29 21 ≤ 24 ∧ 1 ≤ σ 29 22 ∧ σ 29 22 ≤ 8) (hc : 0 ≤ c ∧ c < σ 29 21) (hh : 32 ≤ h ∧ h ≤ 126) (hw : ((∀ j, 0 ≤ j → j < 192 → 32 ≤ σ 40 j ∧ σ 40 j ≤ 126) ∧ ∀ j, 0 ≤ j → j < σ 29 21 * (σ 29 22 - 1) → σ 40 j = 32)) : pe_M m_M_status [pe_r 29, pe_i c, pe_i h] σ (pe_qi (fun z σ' => pe_B σ' ∧ (∀ b, b ∉ [40] → σ' b = σ b) ∧ z = c + 1 ∧ ((∀ j, 0 ≤ j → j < 192 → 32 ≤ σ' 40 j ∧ σ' 40 j ≤ 126) ∧ ∀ j, 0 ≤ j → j < σ 29 21 * (σ 29 22 - 1) → σ' 40 j = 32))) := by
  refine pe_in0 (lv := [some (pe_r 29), some (pe_i c), some (pe_i h)]) ?_
  have hB0 := hB
  have hix := pe_ix (r := σ 29 22 - 1) (c := 0) (H := σ 29 22) (W := σ 29 21) (by omega) (by omega) (by omega) (by omega)
  refine pe_iload_n d_M_status_0 rfl ?_
  refine pe_aload_n d_M_status_1 rfl ?_
  refine pe_geti f_M_78 d_M_status_2 rfl rfl 21 rfl ?_
  refine pe_icmp_ge (t := 27) d_M_status_5 (by first | exact hB _ _ | exact hB0 _ _ | exact hBt _ _ | exact ⟨by omega, by omega⟩) (by first | exact hB _ _ | exact hB0 _ _ | exact hBt _ _ | exact ⟨by omega, by omega⟩) (fun h5 => ?_) (fun h5 => ?_)
  · skip
    refine pe_iload_n d_M_status_27 rfl ?_
    refine pe_iconst d_M_status_28 ?_
    refine pe_iadd d_M_status_29 ?_
    refine pe_ri d_M_status_30 ?_
    first | (exfalso; omega) | exact ⟨hB, (fun b hb => rfl), rfl, pe_w40 hw (by omega) e26 hh o26⟩
  · skip
    refine pe_aload_n d_M_status_8 rfl ?_
    refine pe_getr f_M_50 d_M_status_9 rfl rfl ?_
    refine pe_aload_n d_M_status_12 rfl ?_
    refine pe_geti f_M_78 d_M_status_13 rfl rfl 21 rfl ?_
    refine pe_aload_n d_M_status_16 rfl ?_
    refine pe_geti f_M_81 d_M_status_17 rfl rfl 22 rfl ?_
    refine pe_iconst d_M_status_20 ?_
    refine pe_isub d_M_status_21 ?_
    refine pe_imul d_M_status_22 ?_
    refine pe_iload_n d_M_status_23 rfl ?_
    refine pe_iadd d_M_status_24 ?_
    refine pe_iload_n d_M_status_25 rfl ?_
    refine pe_iastT d_M_status_26 rfl (by omega) (by omega) hB (by first | exact hB _ _ | exact hB0 _ _ | exact hBt _ _ | exact ⟨by omega, by omega⟩) (fun σ26 hB e26 o26 f26 => ?_)
    refine pe_iload_n d_M_status_27 rfl ?_
    refine pe_iconst d_M_status_28 ?_
    refine pe_iadd d_M_status_29 ?_
    refine pe_ri d_M_status_30 ?_
    first | (exfalso; omega) | exact ⟨hB, (fun b hb => (f26 b (by simp at hb ⊢; try omega)).trans (rfl)), rfl, pe_w40 hw (by omega) e26 hh o26⟩
theorem y_M_statusNumber {σ : pe_H} {c v : Int} (hB : pe_B σ) (hW : 1 ≤ σ 29 21 ∧ σ 29 21 ≤ 24 ∧ 1 ≤ σ 29 22 ∧ σ 29 22 ≤ 8) (hc : 0 ≤ c ∧ c < σ 29 21) (hv : v = 1) (hw : ((∀ j, 0 ≤ j → j < 192 → 32 ≤ σ 40 j ∧ σ 40 j ≤ 126) ∧ ∀ j, 0 ≤ j → j < σ 29 21 * (σ 29 22 - 1) → σ 40 j = 32)) : pe_M m_M_statusNumber [pe_r 29, pe_i c, pe_i v] σ (pe_qi (fun z σ' => pe_B σ' ∧ (∀ b, b ∉ [40] → σ' b = σ b) ∧ z = c + 1 ∧ ((∀ j, 0 ≤ j → j < 192 → 32 ≤ σ' 40 j ∧ σ' 40 j ≤ 126) ∧ ∀ j, 0 ≤ j → j < σ 29 21 * (σ 29 22 - 1) → σ' 40 j = 32))) := by
  refine pe_in0 (lv := [some (pe_r 29), some (pe_i c), some (pe_i v), none, none]) ?_
  have hB0 := hB
  have J21 : ∀ x : Int × Int × pe_H, (pe_B x.2.2 ∧ (∀ b, b ∉ [40] → x.2.2 b = σ b) ∧ ((∀ j, 0 ≤ j → j < 192 → 32 ≤ x.2.2 40 j ∧ x.2.2 40 j ≤ 126) ∧ ∀ j, 0 ≤ j → j < σ 29 21 * (σ 29 22 - 1) → x.2.2 40 j = 32) ∧ ((x.1 = 1 ∧ x.2.1 = c) ∨ (x.1 = 0 ∧ x.2.1 = c + 1))) → pe_G m_M_statusNumber 21 [some (pe_r 29), some (pe_i c), some (pe_i v), some (pe_i x.1), some (pe_i x.2.1)] [] x.2.2 (pe_qi (fun z σ' => pe_B σ' ∧ (∀ b, b ∉ [40] → σ' b = σ b) ∧ z = c + 1 ∧ ((∀ j, 0 ≤ j → j < 192 → 32 ≤ σ' 40 j ∧ σ' 40 j ≤ 126) ∧ ∀ j, 0 ≤ j → j < σ 29 21 * (σ 29 22 - 1) → σ' 40 j = 32))) := by
    refine pe_loop (fun x : Int × Int × pe_H => x.1.toNat) _ _ ?_
    intro x hI ih
    obtain ⟨d, a, τ⟩ := x
    dsimp only at hI ⊢
    obtain ⟨hB, hfr, hX⟩ := hI
    have v_29_21 : τ 29 21 = σ 29 21 := congrFun (hfr 29 (by decide)) 21
    have v_29_22 : τ 29 22 = σ 29 22 := congrFun (hfr 29 (by decide)) 22
    obtain ⟨hw, hX⟩ := hX
    have hBt := hB
    refine pe_iload_n d_M_statusNumber_21 rfl ?_
    refine pe_if_le (t := 50) d_M_statusNumber_22 (by first | exact hB _ _ | exact hB0 _ _ | exact hBt _ _ | exact ⟨by omega, by omega⟩) (fun h22 => ?_) (fun h22 => ?_)
    · skip
      refine pe_iload d_M_statusNumber_50 rfl ?_
      refine pe_ri d_M_statusNumber_52 ?_
      exact ⟨hB, (fun b hb => hfr b (by simp at hb ⊢; try omega)), by omega, hw⟩
    · skip
      have hd1 : d = 1 := by omega
      subst hd1
      refine pe_aload_n d_M_statusNumber_25 rfl ?_
      refine pe_iload d_M_statusNumber_26 rfl ?_
      refine pe_bipush d_M_statusNumber_28 ?_
      refine pe_iload_n d_M_statusNumber_30 rfl ?_
      refine pe_iload_n d_M_statusNumber_31 rfl ?_
      refine pe_idivN d_M_statusNumber_32 (by omega) (by omega) ?_
      refine pe_bipush d_M_statusNumber_33 ?_
      refine pe_iremN d_M_statusNumber_35 (by omega) (by omega) ?_
      refine pe_iadd d_M_statusNumber_36 ?_
      refine pe_v2i d_M_statusNumber_37 c_M_228 i_M_status s_M_status rfl rfl (y_M_status hB (by omega) (by omega) (by omega) (by rw [v_29_21, v_29_22]; exact hw)) (fun z37 σ37 hz37 => ?_)
      obtain ⟨hB, f37, x37⟩ := hz37
      refine pe_istore d_M_statusNumber_40 ?_
      refine pe_iload_n d_M_statusNumber_42 rfl ?_
      refine pe_bipush d_M_statusNumber_43 ?_
      refine pe_idivN d_M_statusNumber_45 (by omega) (by omega) ?_
      refine pe_istore_n d_M_statusNumber_46 ?_
      refine pe_goto (t := 21) d_M_statusNumber_47 ?_
      exact ih (_, _, _) ⟨hB, (fun b hb => (f37 b (by simp at hb ⊢; try omega)).trans (hfr b (by simp at hb ⊢; try omega))), by have q := x37.2; rw [v_29_21, v_29_22] at q; exact q, by (try dsimp only); omega⟩ (by (try dsimp only); omega)
  refine pe_iconst d_M_statusNumber_0 ?_
  refine pe_istore_n d_M_statusNumber_1 ?_
  refine pe_iload_n d_M_statusNumber_2 rfl ?_
  refine pe_bipush d_M_statusNumber_3 ?_
  refine pe_imul d_M_statusNumber_5 ?_
  refine pe_iload_n d_M_statusNumber_6 rfl ?_
  refine pe_icmp_gt (t := 18) d_M_statusNumber_7 (by first | exact hB _ _ | exact hB0 _ _ | exact hBt _ _ | exact ⟨by omega, by omega⟩) (by first | exact hB _ _ | exact hB0 _ _ | exact hBt _ _ | exact ⟨by omega, by omega⟩) (fun h7 => ?_) (fun h7 => ?_)
  · skip
    refine pe_iload_n d_M_statusNumber_18 rfl ?_
    refine pe_istore d_M_statusNumber_19 ?_
    exact J21 (_, _, _) ⟨hB, (fun b hb => rfl), hw, by (try dsimp only); omega⟩
  · skip
    exfalso; omega
theorem y_M_fillStatus {σ : pe_H} (hB : pe_B σ) (hW : 1 ≤ σ 29 21 ∧ σ 29 21 ≤ 24 ∧ 1 ≤ σ 29 22 ∧ σ 29 22 ≤ 8) (hF : σ 29 2 = 0 ∧ σ 29 7 = 0 ∧ 4 ≤ σ 29 21) (hy : σ 38 0 = 0) (hb : (∀ j, 0 ≤ j → j < 192 → σ 40 j = 32 ∧ σ 41 j = 0)) : pe_M m_M_fillStatus [pe_r 29] σ (pe_qv (fun σ' => pe_B σ' ∧ (∀ b, b ∉ [40, 41] → σ' b = σ b) ∧ (∀ j, 0 ≤ j → j < σ 29 21 → (32 ≤ σ' 40 (σ 29 21 * (σ 29 22 - 1) + j) ∧ σ' 40 (σ 29 21 * (σ 29 22 - 1) + j) ≤ 126) ∧ σ' 41 (σ 29 21 * (σ 29 22 - 1) + j) = 1) ∧ ∀ j, 0 ≤ j → j < σ 29 21 * (σ 29 22 - 1) → σ' 40 j = 32 ∧ σ' 41 j = 0)) := by
  refine pe_in0 (lv := [some (pe_r 29), none, none, none]) ?_
  have hB0 := hB
  have hix := pe_ix (r := σ 29 22 - 1) (c := 0) (H := σ 29 22) (W := σ 29 21) (by omega) (by omega) (by omega) (by omega)
  have hw0 : ((∀ j, 0 ≤ j → j < 192 → 32 ≤ σ 40 j ∧ σ 40 j ≤ 126) ∧ ∀ j, 0 ≤ j → j < σ 29 21 * (σ 29 22 - 1) → σ 40 j = 32) := ⟨fun j h1 h2 => by have q := (hb j h1 h2).1; omega, fun j h1 h2 => (hb j h1 (by omega)).1⟩
  have h41 : ∀ j, 0 ≤ j → j < 192 → σ 41 j = 0 := fun j h1 h2 => (hb j h1 h2).2
  have J86 : ∀ x : Int × Int × pe_H, (pe_B x.2.2 ∧ (∀ b, b ∉ [40, 41] → x.2.2 b = σ b) ∧ ((∀ j, 0 ≤ j → j < 192 → 32 ≤ x.2.2 40 j ∧ x.2.2 40 j ≤ 126) ∧ ∀ j, 0 ≤ j → j < σ 29 21 * (σ 29 22 - 1) → x.2.2 40 j = 32) ∧ ((∀ j, 0 ≤ j → j < x.2.1 → x.2.2 41 (σ 29 21 * (σ 29 22 - 1) + j) = 1) ∧ (∀ j, 0 ≤ j → j < σ 29 21 * (σ 29 22 - 1) → x.2.2 41 j = 0)) ∧ (0 ≤ x.2.1 ∧ x.2.1 ≤ σ 29 21)) → pe_G m_M_fillStatus 86 [some (pe_r 29), some (pe_i 1), some (pe_i x.1), some (pe_i x.2.1)] [] x.2.2 (pe_qv (fun σ' => pe_B σ' ∧ (∀ b, b ∉ [40, 41] → σ' b = σ b) ∧ (∀ j, 0 ≤ j → j < σ 29 21 → (32 ≤ σ' 40 (σ 29 21 * (σ 29 22 - 1) + j) ∧ σ' 40 (σ 29 21 * (σ 29 22 - 1) + j) ≤ 126) ∧ σ' 41 (σ 29 21 * (σ 29 22 - 1) + j) = 1) ∧ ∀ j, 0 ≤ j → j < σ 29 21 * (σ 29 22 - 1) → σ' 40 j = 32 ∧ σ' 41 j = 0)) := by
    refine pe_loop (fun x : Int × Int × pe_H => (100 - x.2.1).toNat) _ _ ?_
    intro x hI ih
    obtain ⟨t, k, τ⟩ := x
    dsimp only at hI ⊢
    obtain ⟨hB, hfr, hX⟩ := hI
    have v_29_21 : τ 29 21 = σ 29 21 := congrFun (hfr 29 (by decide)) 21
    have v_29_22 : τ 29 22 = σ 29 22 := congrFun (hfr 29 (by decide)) 22
    obtain ⟨hw, hl, hX⟩ := hX
    have eb : τ 29 21 * (τ 29 22 - 1) = σ 29 21 * (σ 29 22 - 1) := by rw [v_29_21, v_29_22]
    have hBt := hB
    refine pe_iload_n d_M_fillStatus_86 rfl ?_
    refine pe_aload_n d_M_fillStatus_87 rfl ?_
    refine pe_geti f_M_78 d_M_fillStatus_88 rfl rfl 21 rfl ?_
    refine pe_icmp_ge (t := 119) d_M_fillStatus_91 (by first | exact hB _ _ | exact hB0 _ _ | exact hBt _ _ | exact ⟨by omega, by omega⟩) (by first | exact hB _ _ | exact hB0 _ _ | exact hBt _ _ | exact ⟨by omega, by omega⟩) (fun h91 => ?_) (fun h91 => ?_)
    · skip
      refine pe_rv d_M_fillStatus_119 ?_
      exact ⟨hB, (fun b hb => hfr b (by simp at hb ⊢; try omega)), fun j h1 h2 => ⟨hw.1 _ (by omega) (by omega), hl.1 j h1 (by omega)⟩, fun j h1 h2 => ⟨hw.2 j h1 h2, hl.2 j h1 h2⟩⟩
    · skip
      refine pe_aload_n d_M_fillStatus_94 rfl ?_
      refine pe_getr f_M_53 d_M_fillStatus_95 rfl rfl ?_
      refine pe_aload_n d_M_fillStatus_98 rfl ?_
      refine pe_geti f_M_78 d_M_fillStatus_99 rfl rfl 21 rfl ?_
      refine pe_aload_n d_M_fillStatus_102 rfl ?_
      refine pe_geti f_M_81 d_M_fillStatus_103 rfl rfl 22 rfl ?_
      refine pe_iconst d_M_fillStatus_106 ?_
      refine pe_isub d_M_fillStatus_107 ?_
      refine pe_imul d_M_fillStatus_108 ?_
      rw [eb]
      refine pe_iload_n d_M_fillStatus_109 rfl ?_
      refine pe_iadd d_M_fillStatus_110 ?_
      refine pe_iconst d_M_fillStatus_111 ?_
      refine pe_iastT d_M_fillStatus_112 rfl (by omega) (by omega) hB (by first | exact hB _ _ | exact hB0 _ _ | exact hBt _ _ | exact ⟨by omega, by omega⟩) (fun σ112 hB e112 o112 f112 => ?_)
      try have u112_0 : σ112 29 1 = τ 29 1 := by first | exact o112 1 (by decide) | exact congrFun (f112 29 (by decide)) 1
      try have u112_1 : σ112 29 21 = τ 29 21 := by first | exact o112 21 (by decide) | exact congrFun (f112 29 (by decide)) 21
      try have u112_2 : σ112 29 22 = τ 29 22 := by first | exact o112 22 (by decide) | exact congrFun (f112 29 (by decide)) 22
      try have u112_3 : σ112 29 27 = τ 29 27 := by first | exact o112 27 (by decide) | exact congrFun (f112 29 (by decide)) 27
      try have u112_4 : σ112 29 2 = τ 29 2 := by first | exact o112 2 (by decide) | exact congrFun (f112 29 (by decide)) 2
      try have u112_5 : σ112 29 3 = τ 29 3 := by first | exact o112 3 (by decide) | exact congrFun (f112 29 (by decide)) 3
      try have u112_6 : σ112 29 7 = τ 29 7 := by first | exact o112 7 (by decide) | exact congrFun (f112 29 (by decide)) 7
      try have u112_7 : σ112 38 0 = τ 38 0 := by first | exact o112 0 (by decide) | exact congrFun (f112 38 (by decide)) 0
      refine pe_iinc d_M_fillStatus_113 rfl ?_
      refine pe_goto (t := 86) d_M_fillStatus_116 ?_
      exact ih (_, _, _) ⟨hB, (fun b hb => (f112 b (by simp at hb ⊢; try omega)).trans (hfr b (by simp at hb ⊢; try omega))), by (try dsimp only); rw [f112 40 (by decide)]; exact hw, ⟨fun j h1 h2 => by
        (try dsimp only at h2 ⊢)
        by_cases q : j = k
        · rw [q]; exact e112
        · rw [o112 _ (by omega)]; exact hl.1 j h1 (by omega), fun j h1 h2 => by
        (try dsimp only)
        rw [o112 _ (by omega)]; exact hl.2 j h1 h2⟩, by (try dsimp only); omega⟩ (by (try dsimp only); omega)
  refine pe_iconst d_M_fillStatus_0 ?_
  refine pe_istore_n d_M_fillStatus_1 ?_
  refine pe_iconst d_M_fillStatus_2 ?_
  refine pe_istore_n d_M_fillStatus_3 ?_
  refine pe_iload_n d_M_fillStatus_4 rfl ?_
  refine pe_aload_n d_M_fillStatus_5 rfl ?_
  refine pe_geti f_M_117 d_M_fillStatus_6 rfl rfl 2 rfl ?_
  refine pe_icmp_ge (t := 37) d_M_fillStatus_9 (by first | exact hB _ _ | exact hB0 _ _ | exact hBt _ _ | exact ⟨by omega, by omega⟩) (by first | exact hB _ _ | exact hB0 _ _ | exact hBt _ _ | exact ⟨by omega, by omega⟩) (fun h9 => ?_) (fun h9 => ?_)
  · skip
    refine pe_aload_n d_M_fillStatus_37 rfl ?_
    refine pe_iconst d_M_fillStatus_38 ?_
    refine pe_iload_n d_M_fillStatus_39 rfl ?_
    refine pe_v2i d_M_fillStatus_40 c_M_231 i_M_statusNumber s_M_statusNumber rfl rfl (y_M_statusNumber hB (by omega) (by omega) (by omega) hw0) (fun z40 σ40 hz40 => ?_)
    obtain ⟨hB, f40, x40⟩ := hz40
    try have u40_0 : σ40 29 1 = σ 29 1 := by first | exact o40 1 (by decide) | exact congrFun (f40 29 (by decide)) 1
    try have u40_1 : σ40 29 21 = σ 29 21 := by first | exact o40 21 (by decide) | exact congrFun (f40 29 (by decide)) 21
    try have u40_2 : σ40 29 22 = σ 29 22 := by first | exact o40 22 (by decide) | exact congrFun (f40 29 (by decide)) 22
    try have u40_3 : σ40 29 27 = σ 29 27 := by first | exact o40 27 (by decide) | exact congrFun (f40 29 (by decide)) 27
    try have u40_4 : σ40 29 2 = σ 29 2 := by first | exact o40 2 (by decide) | exact congrFun (f40 29 (by decide)) 2
    try have u40_5 : σ40 29 3 = σ 29 3 := by first | exact o40 3 (by decide) | exact congrFun (f40 29 (by decide)) 3
    try have u40_6 : σ40 29 7 = σ 29 7 := by first | exact o40 7 (by decide) | exact congrFun (f40 29 (by decide)) 7
    try have u40_7 : σ40 38 0 = σ 38 0 := by first | exact o40 0 (by decide) | exact congrFun (f40 38 (by decide)) 0
    refine pe_istore_n d_M_fillStatus_43 ?_
    refine pe_aload_n d_M_fillStatus_44 rfl ?_
    refine pe_iload_n d_M_fillStatus_45 rfl ?_
    refine pe_bipush d_M_fillStatus_46 ?_
    refine pe_v2i d_M_fillStatus_48 c_M_228 i_M_status s_M_status rfl rfl (y_M_status hB (by omega) (by omega) (by omega) (by rw [f40 29 (by decide)]; exact x40.2)) (fun z48 σ48 hz48 => ?_)
    obtain ⟨hB, f48, x48⟩ := hz48
    try have u48_0 : σ48 29 1 = σ40 29 1 := by first | exact o48 1 (by decide) | exact congrFun (f48 29 (by decide)) 1
    try have u48_1 : σ48 29 21 = σ40 29 21 := by first | exact o48 21 (by decide) | exact congrFun (f48 29 (by decide)) 21
    try have u48_2 : σ48 29 22 = σ40 29 22 := by first | exact o48 22 (by decide) | exact congrFun (f48 29 (by decide)) 22
    try have u48_3 : σ48 29 27 = σ40 29 27 := by first | exact o48 27 (by decide) | exact congrFun (f48 29 (by decide)) 27
    try have u48_4 : σ48 29 2 = σ40 29 2 := by first | exact o48 2 (by decide) | exact congrFun (f48 29 (by decide)) 2
    try have u48_5 : σ48 29 3 = σ40 29 3 := by first | exact o48 3 (by decide) | exact congrFun (f48 29 (by decide)) 3
    try have u48_6 : σ48 29 7 = σ40 29 7 := by first | exact o48 7 (by decide) | exact congrFun (f48 29 (by decide)) 7
    try have u48_7 : σ48 38 0 = σ40 38 0 := by first | exact o48 0 (by decide) | exact congrFun (f48 38 (by decide)) 0
    rw [f40 29 (by decide)] at x48
    refine pe_istore_n d_M_fillStatus_51 ?_
    refine pe_aload_n d_M_fillStatus_52 rfl ?_
    refine pe_iload_n d_M_fillStatus_53 rfl ?_
    refine pe_aload_n d_M_fillStatus_54 rfl ?_
    refine pe_getr f_M_44 d_M_fillStatus_55 rfl rfl ?_
    refine pe_aload_n d_M_fillStatus_58 rfl ?_
    refine pe_geti f_M_117 d_M_fillStatus_59 rfl rfl 2 rfl ?_
    refine pe_iald d_M_fillStatus_62 rfl (by omega) (by omega) ?_
    refine pe_iconst d_M_fillStatus_63 ?_
    refine pe_iadd d_M_fillStatus_64 ?_
    have hcu : σ48 38 (σ48 29 2) = 0 := by
      have q : σ48 29 2 = 0 := by omega
      rw [q, f48 38 (by decide), f40 38 (by decide)]; exact hy
    refine pe_v2i d_M_fillStatus_65 c_M_231 i_M_statusNumber s_M_statusNumber rfl rfl (y_M_statusNumber hB (by omega) (by omega) (by rw [hcu]; omega) (by rw [f48 29 (by decide), f40 29 (by decide)]; exact x48.2)) (fun z65 σ65 hz65 => ?_)
    obtain ⟨hB, f65, x65⟩ := hz65
    try have u65_0 : σ65 29 1 = σ48 29 1 := by first | exact o65 1 (by decide) | exact congrFun (f65 29 (by decide)) 1
    try have u65_1 : σ65 29 21 = σ48 29 21 := by first | exact o65 21 (by decide) | exact congrFun (f65 29 (by decide)) 21
    try have u65_2 : σ65 29 22 = σ48 29 22 := by first | exact o65 22 (by decide) | exact congrFun (f65 29 (by decide)) 22
    try have u65_3 : σ65 29 27 = σ48 29 27 := by first | exact o65 27 (by decide) | exact congrFun (f65 29 (by decide)) 27
    try have u65_4 : σ65 29 2 = σ48 29 2 := by first | exact o65 2 (by decide) | exact congrFun (f65 29 (by decide)) 2
    try have u65_5 : σ65 29 3 = σ48 29 3 := by first | exact o65 3 (by decide) | exact congrFun (f65 29 (by decide)) 3
    try have u65_6 : σ65 29 7 = σ48 29 7 := by first | exact o65 7 (by decide) | exact congrFun (f65 29 (by decide)) 7
    try have u65_7 : σ65 38 0 = σ48 38 0 := by first | exact o65 0 (by decide) | exact congrFun (f65 38 (by decide)) 0
    rw [f48 29 (by decide), f40 29 (by decide)] at x65
    refine pe_istore_n d_M_fillStatus_68 ?_
    refine pe_aload_n d_M_fillStatus_69 rfl ?_
    refine pe_geti f_M_111 d_M_fillStatus_70 rfl rfl 7 rfl ?_
    refine pe_if_le (t := 84) d_M_fillStatus_73 (by first | exact hB _ _ | exact hB0 _ _ | exact hBt _ _ | exact ⟨by omega, by omega⟩) (fun h73 => ?_) (fun h73 => ?_)
    · skip
      refine pe_iconst d_M_fillStatus_84 ?_
      refine pe_istore_n d_M_fillStatus_85 ?_
      exact J86 (_, _, _) ⟨hB, (fun b hb => (f65 b (by simp at hb ⊢; try omega)).trans ((f48 b (by simp at hb ⊢; try omega)).trans ((f40 b (by simp at hb ⊢; try omega)).trans (rfl)))), x65.2, ⟨fun j h1 h2 => by (try dsimp only at h2); omega, fun j h1 h2 => by (try dsimp only); rw [((f65 41 (by decide)).trans ((f48 41 (by decide)).trans ((f40 41 (by decide)).trans (rfl))))]; exact h41 j h1 (by omega)⟩, by (try dsimp only); omega⟩
    · skip
      exfalso; omega
  · skip
    exfalso; omega
theorem y_M_isSmall {σ : pe_H} (hB : pe_B σ) : pe_M m_M_isSmall [pe_r 29] σ (pe_qp σ (fun z => (z = 0 ∨ z = 1) ∧ (z = 1 ↔ (σ 29 21 < 4 ∨ σ 29 22 < 2)))) := by
  refine pe_in0 (lv := [some (pe_r 29)]) ?_
  have hB0 := hB
  refine pe_aload_n d_M_isSmall_0 rfl ?_
  refine pe_geti f_M_78 d_M_isSmall_1 rfl rfl 21 rfl ?_
  refine pe_iconst d_M_isSmall_4 ?_
  refine pe_icmp_lt (t := 16) d_M_isSmall_5 (by first | exact hB _ _ | exact hB0 _ _ | exact hBt _ _ | exact ⟨by omega, by omega⟩) (by first | exact hB _ _ | exact hB0 _ _ | exact hBt _ _ | exact ⟨by omega, by omega⟩) (fun h5 => ?_) (fun h5 => ?_)
  · skip
    refine pe_iconst d_M_isSmall_16 ?_
    refine pe_goto (t := 21) d_M_isSmall_17 ?_
    refine pe_rz d_M_isSmall_21 (by first | exact Or.inl rfl | exact Or.inr rfl | omega) ?_
    exact ⟨rfl, by (try dsimp only); omega⟩
  · skip
    refine pe_aload_n d_M_isSmall_8 rfl ?_
    refine pe_geti f_M_81 d_M_isSmall_9 rfl rfl 22 rfl ?_
    refine pe_iconst d_M_isSmall_12 ?_
    refine pe_icmp_ge (t := 20) d_M_isSmall_13 (by first | exact hB _ _ | exact hB0 _ _ | exact hBt _ _ | exact ⟨by omega, by omega⟩) (by first | exact hB _ _ | exact hB0 _ _ | exact hBt _ _ | exact ⟨by omega, by omega⟩) (fun h13 => ?_) (fun h13 => ?_)
    · skip
      refine pe_iconst d_M_isSmall_20 ?_
      refine pe_rz d_M_isSmall_21 (by first | exact Or.inl rfl | exact Or.inr rfl | omega) ?_
      exact ⟨rfl, by (try dsimp only); omega⟩
    · skip
      refine pe_iconst d_M_isSmall_16 ?_
      refine pe_goto (t := 21) d_M_isSmall_17 ?_
      refine pe_rz d_M_isSmall_21 (by first | exact Or.inl rfl | exact Or.inr rfl | omega) ?_
      exact ⟨rfl, by (try dsimp only); omega⟩
theorem y_M_compose {σ : pe_H} (hB : pe_B σ) (hW : 1 ≤ σ 29 21 ∧ σ 29 21 ≤ 24 ∧ 1 ≤ σ 29 22 ∧ σ 29 22 ≤ 8) (hF : σ 29 1 = 0 ∧ σ 29 2 = 0 ∧ σ 29 3 = -1 ∧ σ 29 7 = 0 ∧ σ 29 27 = 0) : pe_M m_M_compose [pe_r 29] σ (pe_qv (fun σ' => pe_B σ' ∧ (∀ b, b ∉ [29, 37, 38, 39, 40, 41] → σ' b = σ b) ∧ (∀ j, j ∉ ([26, 27, 30, 31] : List Int) → σ' 29 j = σ 29 j) ∧ (σ' 29 30 = 0 ∧ σ' 29 31 = 0) ∧ ((σ 29 21 < 4 ∨ σ 29 22 < 2) → (∀ j, 0 ≤ j → j < 192 → σ' 40 j = 32 ∧ σ' 41 j = 0)) ∧ (¬ (σ 29 21 < 4 ∨ σ 29 22 < 2) → (∀ j, 0 ≤ j → j < σ 29 21 → (32 ≤ σ' 40 (σ 29 21 * (σ 29 22 - 1) + j) ∧ σ' 40 (σ 29 21 * (σ 29 22 - 1) + j) ≤ 126) ∧ σ' 41 (σ 29 21 * (σ 29 22 - 1) + j) = 1) ∧ ∀ j, 0 ≤ j → j < σ 29 21 * (σ 29 22 - 1) → σ' 40 j = 32 ∧ σ' 41 j = 0))) := by
  refine pe_in0 (lv := [some (pe_r 29), none]) ?_
  have hB0 := hB
  have J2 : ∀ x : Int × pe_H, (pe_B x.2 ∧ (∀ b, b ∉ [40, 41] → x.2 b = σ b) ∧ (∀ j, 0 ≤ j → j < x.1 → x.2 40 j = 32 ∧ x.2 41 j = 0) ∧ (0 ≤ x.1 ∧ x.1 ≤ 192)) → pe_G m_M_compose 2 [some (pe_r 29), some (pe_i x.1)] [] x.2 (pe_qv (fun σ' => pe_B σ' ∧ (∀ b, b ∉ [29, 37, 38, 39, 40, 41] → σ' b = σ b) ∧ (∀ j, j ∉ ([26, 27, 30, 31] : List Int) → σ' 29 j = σ 29 j) ∧ (σ' 29 30 = 0 ∧ σ' 29 31 = 0) ∧ ((σ 29 21 < 4 ∨ σ 29 22 < 2) → (∀ j, 0 ≤ j → j < 192 → σ' 40 j = 32 ∧ σ' 41 j = 0)) ∧ (¬ (σ 29 21 < 4 ∨ σ 29 22 < 2) → (∀ j, 0 ≤ j → j < σ 29 21 → (32 ≤ σ' 40 (σ 29 21 * (σ 29 22 - 1) + j) ∧ σ' 40 (σ 29 21 * (σ 29 22 - 1) + j) ≤ 126) ∧ σ' 41 (σ 29 21 * (σ 29 22 - 1) + j) = 1) ∧ ∀ j, 0 ≤ j → j < σ 29 21 * (σ 29 22 - 1) → σ' 40 j = 32 ∧ σ' 41 j = 0))) := by
    refine pe_loop (fun x : Int × pe_H => (300 - x.1).toNat) _ _ ?_
    intro x hI ih
    obtain ⟨i, τ⟩ := x
    dsimp only at hI ⊢
    obtain ⟨hB, hfr, hX⟩ := hI
    have v_29_1 : τ 29 1 = σ 29 1 := congrFun (hfr 29 (by decide)) 1
    have v_29_21 : τ 29 21 = σ 29 21 := congrFun (hfr 29 (by decide)) 21
    have v_29_22 : τ 29 22 = σ 29 22 := congrFun (hfr 29 (by decide)) 22
    have v_29_27 : τ 29 27 = σ 29 27 := congrFun (hfr 29 (by decide)) 27
    have v_29_2 : τ 29 2 = σ 29 2 := congrFun (hfr 29 (by decide)) 2
    have v_29_3 : τ 29 3 = σ 29 3 := congrFun (hfr 29 (by decide)) 3
    have v_29_7 : τ 29 7 = σ 29 7 := congrFun (hfr 29 (by decide)) 7
    obtain ⟨hb, hX⟩ := hX
    have hBt := hB
    refine pe_iload_n d_M_compose_2 rfl ?_
    refine pe_sipush d_M_compose_3 ?_
    refine pe_icmp_ge (t := 30) d_M_compose_6 (by first | exact hB _ _ | exact hB0 _ _ | exact hBt _ _ | exact ⟨by omega, by omega⟩) (by first | exact hB _ _ | exact hB0 _ _ | exact hBt _ _ | exact ⟨by omega, by omega⟩) (fun h6 => ?_) (fun h6 => ?_)
    · skip
      have hbb : (∀ j, 0 ≤ j → j < 192 → τ 40 j = 32 ∧ τ 41 j = 0) := fun j h1 h2 => hb j h1 (by omega)
      refine pe_aload_n d_M_compose_30 rfl ?_
      refine pe_iconst d_M_compose_31 ?_
      refine pe_putiT f_M_234 g_11_30 d_M_compose_32 rfl rfl 30 rfl hB (by first | exact hB _ _ | exact hB0 _ _ | exact hBt _ _ | exact ⟨by omega, by omega⟩) (fun σ32 hB e32 o32 f32 => ?_)
      try have u32_0 : σ32 29 1 = τ 29 1 := by first | exact o32 1 (by decide) | exact congrFun (f32 29 (by decide)) 1
      try have u32_1 : σ32 29 21 = τ 29 21 := by first | exact o32 21 (by decide) | exact congrFun (f32 29 (by decide)) 21
      try have u32_2 : σ32 29 22 = τ 29 22 := by first | exact o32 22 (by decide) | exact congrFun (f32 29 (by decide)) 22
      try have u32_3 : σ32 29 27 = τ 29 27 := by first | exact o32 27 (by decide) | exact congrFun (f32 29 (by decide)) 27
      try have u32_4 : σ32 29 2 = τ 29 2 := by first | exact o32 2 (by decide) | exact congrFun (f32 29 (by decide)) 2
      try have u32_5 : σ32 29 3 = τ 29 3 := by first | exact o32 3 (by decide) | exact congrFun (f32 29 (by decide)) 3
      try have u32_6 : σ32 29 7 = τ 29 7 := by first | exact o32 7 (by decide) | exact congrFun (f32 29 (by decide)) 7
      try have u32_7 : σ32 29 30 = τ 29 30 := by first | exact o32 30 (by decide) | exact congrFun (f32 29 (by decide)) 30
      try have u32_8 : σ32 29 31 = τ 29 31 := by first | exact o32 31 (by decide) | exact congrFun (f32 29 (by decide)) 31
      refine pe_aload_n d_M_compose_35 rfl ?_
      refine pe_iconst d_M_compose_36 ?_
      refine pe_putiT f_M_237 g_11_31 d_M_compose_37 rfl rfl 31 rfl hB (by first | exact hB _ _ | exact hB0 _ _ | exact hBt _ _ | exact ⟨by omega, by omega⟩) (fun σ37 hB e37 o37 f37 => ?_)
      try have u37_0 : σ37 29 1 = σ32 29 1 := by first | exact o37 1 (by decide) | exact congrFun (f37 29 (by decide)) 1
      try have u37_1 : σ37 29 21 = σ32 29 21 := by first | exact o37 21 (by decide) | exact congrFun (f37 29 (by decide)) 21
      try have u37_2 : σ37 29 22 = σ32 29 22 := by first | exact o37 22 (by decide) | exact congrFun (f37 29 (by decide)) 22
      try have u37_3 : σ37 29 27 = σ32 29 27 := by first | exact o37 27 (by decide) | exact congrFun (f37 29 (by decide)) 27
      try have u37_4 : σ37 29 2 = σ32 29 2 := by first | exact o37 2 (by decide) | exact congrFun (f37 29 (by decide)) 2
      try have u37_5 : σ37 29 3 = σ32 29 3 := by first | exact o37 3 (by decide) | exact congrFun (f37 29 (by decide)) 3
      try have u37_6 : σ37 29 7 = σ32 29 7 := by first | exact o37 7 (by decide) | exact congrFun (f37 29 (by decide)) 7
      try have u37_7 : σ37 29 30 = σ32 29 30 := by first | exact o37 30 (by decide) | exact congrFun (f37 29 (by decide)) 30
      try have u37_8 : σ37 29 31 = σ32 29 31 := by first | exact o37 31 (by decide) | exact congrFun (f37 29 (by decide)) 31
      refine pe_aload_n d_M_compose_40 rfl ?_
      refine pe_v0p d_M_compose_41 c_M_240 i_M_isSmall s_M_isSmall rfl rfl (y_M_isSmall hB) (fun z41 hz41 => ?_)
      refine pe_if_eq (t := 48) d_M_compose_44 (by first | exact hB _ _ | exact hB0 _ _ | exact hBt _ _ | exact ⟨by omega, by omega⟩) (fun h44 => ?_) (fun h44 => ?_)
      · skip
        refine pe_aload_n d_M_compose_48 rfl ?_
        refine pe_v0v d_M_compose_49 c_M_165 i_M_layOut s_M_layOut rfl rfl (y_M_layOut hB (by omega) (by omega)) (fun σ49 hz49 => ?_)
        obtain ⟨hB, f49, o49, x49⟩ := hz49
        try have u49_0 : σ49 29 1 = σ37 29 1 := by first | exact o49 1 (by decide) | exact congrFun (f49 29 (by decide)) 1
        try have u49_1 : σ49 29 21 = σ37 29 21 := by first | exact o49 21 (by decide) | exact congrFun (f49 29 (by decide)) 21
        try have u49_2 : σ49 29 22 = σ37 29 22 := by first | exact o49 22 (by decide) | exact congrFun (f49 29 (by decide)) 22
        try have u49_3 : σ49 29 27 = σ37 29 27 := by first | exact o49 27 (by decide) | exact congrFun (f49 29 (by decide)) 27
        try have u49_4 : σ49 29 2 = σ37 29 2 := by first | exact o49 2 (by decide) | exact congrFun (f49 29 (by decide)) 2
        try have u49_5 : σ49 29 3 = σ37 29 3 := by first | exact o49 3 (by decide) | exact congrFun (f49 29 (by decide)) 3
        try have u49_6 : σ49 29 7 = σ37 29 7 := by first | exact o49 7 (by decide) | exact congrFun (f49 29 (by decide)) 7
        try have u49_7 : σ49 29 30 = σ37 29 30 := by first | exact o49 30 (by decide) | exact congrFun (f49 29 (by decide)) 30
        try have u49_8 : σ49 29 31 = σ37 29 31 := by first | exact o49 31 (by decide) | exact congrFun (f49 29 (by decide)) 31
        have q2 : σ49 29 2 = 0 := by omega
        have q37 : σ49 37 (σ49 29 2) = 0 := by rw [q2]; exact x49.1
        refine pe_aload_n d_M_compose_52 rfl ?_
        refine pe_getr f_M_41 d_M_compose_53 rfl rfl ?_
        refine pe_aload_n d_M_compose_56 rfl ?_
        refine pe_geti f_M_117 d_M_compose_57 rfl rfl 2 rfl ?_
        refine pe_iald d_M_compose_60 rfl (by omega) (by omega) ?_
        refine pe_istore_n d_M_compose_61 ?_
        refine pe_iload_n d_M_compose_62 rfl ?_
        refine pe_aload_n d_M_compose_63 rfl ?_
        refine pe_geti f_M_222 d_M_compose_64 rfl rfl 27 rfl ?_
        refine pe_icmp_ge (t := 75) d_M_compose_67 (by first | exact hB _ _ | exact hB0 _ _ | exact hBt _ _ | exact ⟨by omega, by omega⟩) (by first | exact hB _ _ | exact hB0 _ _ | exact hBt _ _ | exact ⟨by omega, by omega⟩) (fun h67 => ?_) (fun h67 => ?_)
        · skip
          refine pe_iload_n d_M_compose_75 rfl ?_
          refine pe_aload_n d_M_compose_76 rfl ?_
          refine pe_geti f_M_222 d_M_compose_77 rfl rfl 27 rfl ?_
          refine pe_aload_n d_M_compose_80 rfl ?_
          refine pe_geti f_M_81 d_M_compose_81 rfl rfl 22 rfl ?_
          refine pe_iadd d_M_compose_84 ?_
          refine pe_iconst d_M_compose_85 ?_
          refine pe_isub d_M_compose_86 ?_
          refine pe_icmp_lt (t := 102) d_M_compose_87 (by first | exact hB _ _ | exact hB0 _ _ | exact hBt _ _ | exact ⟨by omega, by omega⟩) (by first | exact hB _ _ | exact hB0 _ _ | exact hBt _ _ | exact ⟨by omega, by omega⟩) (fun h87 => ?_) (fun h87 => ?_)
          · skip
            refine pe_aload_n d_M_compose_102 rfl ?_
            refine pe_v0v d_M_compose_103 c_M_244 i_M_fillText s_M_fillText rfl rfl (y_M_fillText hB (by omega) (by omega) x49 (by rw [((f49 40 (by decide)).trans ((f37 40 (by decide)).trans ((f32 40 (by decide)).trans (rfl)))), ((f49 41 (by decide)).trans ((f37 41 (by decide)).trans ((f32 41 (by decide)).trans (rfl))))]; exact hbb)) (fun σ103 hz103 => ?_)
            obtain ⟨hB, f103, x103⟩ := hz103
            try have u103_0 : σ103 29 1 = σ49 29 1 := by first | exact o103 1 (by decide) | exact congrFun (f103 29 (by decide)) 1
            try have u103_1 : σ103 29 21 = σ49 29 21 := by first | exact o103 21 (by decide) | exact congrFun (f103 29 (by decide)) 21
            try have u103_2 : σ103 29 22 = σ49 29 22 := by first | exact o103 22 (by decide) | exact congrFun (f103 29 (by decide)) 22
            try have u103_3 : σ103 29 27 = σ49 29 27 := by first | exact o103 27 (by decide) | exact congrFun (f103 29 (by decide)) 27
            try have u103_4 : σ103 29 2 = σ49 29 2 := by first | exact o103 2 (by decide) | exact congrFun (f103 29 (by decide)) 2
            try have u103_5 : σ103 29 3 = σ49 29 3 := by first | exact o103 3 (by decide) | exact congrFun (f103 29 (by decide)) 3
            try have u103_6 : σ103 29 7 = σ49 29 7 := by first | exact o103 7 (by decide) | exact congrFun (f103 29 (by decide)) 7
            try have u103_7 : σ103 29 30 = σ49 29 30 := by first | exact o103 30 (by decide) | exact congrFun (f103 29 (by decide)) 30
            try have u103_8 : σ103 29 31 = σ49 29 31 := by first | exact o103 31 (by decide) | exact congrFun (f103 29 (by decide)) 31
            refine pe_aload_n d_M_compose_106 rfl ?_
            refine pe_v0v d_M_compose_107 c_M_247 i_M_fillStatus s_M_fillStatus rfl rfl (y_M_fillStatus hB (by omega) (by omega) (by rw [f103 38 (by decide)]; exact x49.2.1) x103) (fun σ107 hz107 => ?_)
            obtain ⟨hB, f107, x107⟩ := hz107
            try have u107_0 : σ107 29 1 = σ103 29 1 := by first | exact o107 1 (by decide) | exact congrFun (f107 29 (by decide)) 1
            try have u107_1 : σ107 29 21 = σ103 29 21 := by first | exact o107 21 (by decide) | exact congrFun (f107 29 (by decide)) 21
            try have u107_2 : σ107 29 22 = σ103 29 22 := by first | exact o107 22 (by decide) | exact congrFun (f107 29 (by decide)) 22
            try have u107_3 : σ107 29 27 = σ103 29 27 := by first | exact o107 27 (by decide) | exact congrFun (f107 29 (by decide)) 27
            try have u107_4 : σ107 29 2 = σ103 29 2 := by first | exact o107 2 (by decide) | exact congrFun (f107 29 (by decide)) 2
            try have u107_5 : σ107 29 3 = σ103 29 3 := by first | exact o107 3 (by decide) | exact congrFun (f107 29 (by decide)) 3
            try have u107_6 : σ107 29 7 = σ103 29 7 := by first | exact o107 7 (by decide) | exact congrFun (f107 29 (by decide)) 7
            try have u107_7 : σ107 29 30 = σ103 29 30 := by first | exact o107 30 (by decide) | exact congrFun (f107 29 (by decide)) 30
            try have u107_8 : σ107 29 31 = σ103 29 31 := by first | exact o107 31 (by decide) | exact congrFun (f107 29 (by decide)) 31
            refine pe_aload_n d_M_compose_110 rfl ?_
            refine pe_iload_n d_M_compose_111 rfl ?_
            refine pe_aload_n d_M_compose_112 rfl ?_
            refine pe_geti f_M_222 d_M_compose_113 rfl rfl 27 rfl ?_
            refine pe_isub d_M_compose_116 ?_
            refine pe_putiT f_M_234 g_11_30 d_M_compose_117 rfl rfl 30 rfl hB (by first | exact hB _ _ | exact hB0 _ _ | exact hBt _ _ | exact ⟨by omega, by omega⟩) (fun σ117 hB e117 o117 f117 => ?_)
            try have u117_0 : σ117 29 1 = σ107 29 1 := by first | exact o117 1 (by decide) | exact congrFun (f117 29 (by decide)) 1
            try have u117_1 : σ117 29 21 = σ107 29 21 := by first | exact o117 21 (by decide) | exact congrFun (f117 29 (by decide)) 21
            try have u117_2 : σ117 29 22 = σ107 29 22 := by first | exact o117 22 (by decide) | exact congrFun (f117 29 (by decide)) 22
            try have u117_3 : σ117 29 27 = σ107 29 27 := by first | exact o117 27 (by decide) | exact congrFun (f117 29 (by decide)) 27
            try have u117_4 : σ117 29 2 = σ107 29 2 := by first | exact o117 2 (by decide) | exact congrFun (f117 29 (by decide)) 2
            try have u117_5 : σ117 29 3 = σ107 29 3 := by first | exact o117 3 (by decide) | exact congrFun (f117 29 (by decide)) 3
            try have u117_6 : σ117 29 7 = σ107 29 7 := by first | exact o117 7 (by decide) | exact congrFun (f117 29 (by decide)) 7
            try have u117_7 : σ117 29 30 = σ107 29 30 := by first | exact o117 30 (by decide) | exact congrFun (f117 29 (by decide)) 30
            try have u117_8 : σ117 29 31 = σ107 29 31 := by first | exact o117 31 (by decide) | exact congrFun (f117 29 (by decide)) 31
            refine pe_aload_n d_M_compose_120 rfl ?_
            refine pe_aload_n d_M_compose_121 rfl ?_
            refine pe_getr f_M_44 d_M_compose_122 rfl rfl ?_
            refine pe_aload_n d_M_compose_125 rfl ?_
            refine pe_geti f_M_117 d_M_compose_126 rfl rfl 2 rfl ?_
            refine pe_iald d_M_compose_129 rfl (by omega) (by omega) ?_
            have q3 : σ117 29 2 = 0 := by omega
            have q38 : σ117 38 (σ117 29 2) = 0 := by rw [q3, ((f117 38 (by decide)).trans ((f107 38 (by decide)).trans ((f103 38 (by decide)).trans (rfl))))]; exact x49.2.1
            refine pe_putiT f_M_237 g_11_31 d_M_compose_130 rfl rfl 31 rfl hB (by first | exact hB _ _ | exact hB0 _ _ | exact hBt _ _ | exact ⟨by omega, by omega⟩) (fun σ130 hB e130 o130 f130 => ?_)
            try have u130_0 : σ130 29 1 = σ117 29 1 := by first | exact o130 1 (by decide) | exact congrFun (f130 29 (by decide)) 1
            try have u130_1 : σ130 29 21 = σ117 29 21 := by first | exact o130 21 (by decide) | exact congrFun (f130 29 (by decide)) 21
            try have u130_2 : σ130 29 22 = σ117 29 22 := by first | exact o130 22 (by decide) | exact congrFun (f130 29 (by decide)) 22
            try have u130_3 : σ130 29 27 = σ117 29 27 := by first | exact o130 27 (by decide) | exact congrFun (f130 29 (by decide)) 27
            try have u130_4 : σ130 29 2 = σ117 29 2 := by first | exact o130 2 (by decide) | exact congrFun (f130 29 (by decide)) 2
            try have u130_5 : σ130 29 3 = σ117 29 3 := by first | exact o130 3 (by decide) | exact congrFun (f130 29 (by decide)) 3
            try have u130_6 : σ130 29 7 = σ117 29 7 := by first | exact o130 7 (by decide) | exact congrFun (f130 29 (by decide)) 7
            try have u130_7 : σ130 29 30 = σ117 29 30 := by first | exact o130 30 (by decide) | exact congrFun (f130 29 (by decide)) 30
            try have u130_8 : σ130 29 31 = σ117 29 31 := by first | exact o130 31 (by decide) | exact congrFun (f130 29 (by decide)) 31
            refine pe_rv d_M_compose_133 ?_
            have r21 : σ103 29 21 = σ 29 21 := by omega
            have r22 : σ103 29 22 = σ 29 22 := by omega
            rw [r21, r22] at x107
            exact ⟨hB, (fun b hb => (f130 b (by simp at hb ⊢; try omega)).trans ((f117 b (by simp at hb ⊢; try omega)).trans ((f107 b (by simp at hb ⊢; try omega)).trans ((f103 b (by simp at hb ⊢; try omega)).trans ((f49 b (by simp at hb ⊢; try omega)).trans ((f37 b (by simp at hb ⊢; try omega)).trans ((f32 b (by simp at hb ⊢; try omega)).trans (hfr b (by simp at hb ⊢; try omega))))))))), (fun j hj => (o130 j (by simp at hj ⊢; try omega)).trans ((o117 j (by simp at hj ⊢; try omega)).trans ((congrFun (f107 29 (by decide)) j).trans ((congrFun (f103 29 (by decide)) j).trans ((o49 j (by simp at hj ⊢; try omega)).trans ((o37 j (by simp at hj ⊢; try omega)).trans ((o32 j (by simp at hj ⊢; try omega)).trans (congrFun (hfr 29 (by decide)) j)))))))), by omega, fun h => absurd h (by omega), fun _ => by (try dsimp only); rw [((f130 40 (by decide)).trans ((f117 40 (by decide)).trans (rfl))), ((f130 41 (by decide)).trans ((f117 41 (by decide)).trans (rfl)))]; exact x107⟩
          · skip
            exfalso; omega
        · skip
          exfalso; omega
      · skip
        refine pe_rv d_M_compose_47 ?_
        first | (exfalso; omega) | exact ⟨hB, (fun b hb => (f37 b (by simp at hb ⊢; try omega)).trans ((f32 b (by simp at hb ⊢; try omega)).trans (hfr b (by simp at hb ⊢; try omega)))), (fun j hj => (o37 j (by simp at hj ⊢; try omega)).trans ((o32 j (by simp at hj ⊢; try omega)).trans (congrFun (hfr 29 (by decide)) j))), by omega, fun _ => by (try dsimp only); rw [((f37 40 (by decide)).trans ((f32 40 (by decide)).trans (rfl))), ((f37 41 (by decide)).trans ((f32 41 (by decide)).trans (rfl)))]; exact hbb, fun h => absurd (by omega) h⟩
    · skip
      refine pe_aload_n d_M_compose_9 rfl ?_
      refine pe_getr f_M_50 d_M_compose_10 rfl rfl ?_
      refine pe_iload_n d_M_compose_13 rfl ?_
      refine pe_bipush d_M_compose_14 ?_
      refine pe_iastT d_M_compose_16 rfl (by omega) (by omega) hB (by first | exact hB _ _ | exact hB0 _ _ | exact hBt _ _ | exact ⟨by omega, by omega⟩) (fun σ16 hB e16 o16 f16 => ?_)
      try have u16_0 : σ16 29 1 = τ 29 1 := by first | exact o16 1 (by decide) | exact congrFun (f16 29 (by decide)) 1
      try have u16_1 : σ16 29 21 = τ 29 21 := by first | exact o16 21 (by decide) | exact congrFun (f16 29 (by decide)) 21
      try have u16_2 : σ16 29 22 = τ 29 22 := by first | exact o16 22 (by decide) | exact congrFun (f16 29 (by decide)) 22
      try have u16_3 : σ16 29 27 = τ 29 27 := by first | exact o16 27 (by decide) | exact congrFun (f16 29 (by decide)) 27
      try have u16_4 : σ16 29 2 = τ 29 2 := by first | exact o16 2 (by decide) | exact congrFun (f16 29 (by decide)) 2
      try have u16_5 : σ16 29 3 = τ 29 3 := by first | exact o16 3 (by decide) | exact congrFun (f16 29 (by decide)) 3
      try have u16_6 : σ16 29 7 = τ 29 7 := by first | exact o16 7 (by decide) | exact congrFun (f16 29 (by decide)) 7
      try have u16_7 : σ16 29 30 = τ 29 30 := by first | exact o16 30 (by decide) | exact congrFun (f16 29 (by decide)) 30
      try have u16_8 : σ16 29 31 = τ 29 31 := by first | exact o16 31 (by decide) | exact congrFun (f16 29 (by decide)) 31
      refine pe_aload_n d_M_compose_17 rfl ?_
      refine pe_getr f_M_53 d_M_compose_18 rfl rfl ?_
      refine pe_iload_n d_M_compose_21 rfl ?_
      refine pe_iconst d_M_compose_22 ?_
      refine pe_iastT d_M_compose_23 rfl (by omega) (by omega) hB (by first | exact hB _ _ | exact hB0 _ _ | exact hBt _ _ | exact ⟨by omega, by omega⟩) (fun σ23 hB e23 o23 f23 => ?_)
      try have u23_0 : σ23 29 1 = σ16 29 1 := by first | exact o23 1 (by decide) | exact congrFun (f23 29 (by decide)) 1
      try have u23_1 : σ23 29 21 = σ16 29 21 := by first | exact o23 21 (by decide) | exact congrFun (f23 29 (by decide)) 21
      try have u23_2 : σ23 29 22 = σ16 29 22 := by first | exact o23 22 (by decide) | exact congrFun (f23 29 (by decide)) 22
      try have u23_3 : σ23 29 27 = σ16 29 27 := by first | exact o23 27 (by decide) | exact congrFun (f23 29 (by decide)) 27
      try have u23_4 : σ23 29 2 = σ16 29 2 := by first | exact o23 2 (by decide) | exact congrFun (f23 29 (by decide)) 2
      try have u23_5 : σ23 29 3 = σ16 29 3 := by first | exact o23 3 (by decide) | exact congrFun (f23 29 (by decide)) 3
      try have u23_6 : σ23 29 7 = σ16 29 7 := by first | exact o23 7 (by decide) | exact congrFun (f23 29 (by decide)) 7
      try have u23_7 : σ23 29 30 = σ16 29 30 := by first | exact o23 30 (by decide) | exact congrFun (f23 29 (by decide)) 30
      try have u23_8 : σ23 29 31 = σ16 29 31 := by first | exact o23 31 (by decide) | exact congrFun (f23 29 (by decide)) 31
      refine pe_iinc d_M_compose_24 rfl ?_
      refine pe_goto (t := 2) d_M_compose_27 ?_
      exact ih (_, _) ⟨hB, (fun b hb => (f23 b (by simp at hb ⊢; try omega)).trans ((f16 b (by simp at hb ⊢; try omega)).trans (hfr b (by simp at hb ⊢; try omega)))), fun j h1 h2 => by
        (try dsimp only at h2 ⊢)
        by_cases q : j = i
        · rw [q, f23 40 (by decide), e16, e23]; exact ⟨rfl, rfl⟩
        · rw [f23 40 (by decide), o16 j q, o23 j q, f16 41 (by decide)]; exact hb j h1 (by omega), by (try dsimp only); omega⟩ (by (try dsimp only); omega)
  refine pe_iconst d_M_compose_0 ?_
  refine pe_istore_n d_M_compose_1 ?_
  exact J2 (_, _) ⟨hB, (fun b hb => rfl), fun j h1 h2 => by (try dsimp only at h2); omega, by (try dsimp only); omega⟩
theorem pe_ixr {W r R c : Int} (hW : 1 ≤ W) (hr : 0 ≤ r ∧ r < R) (hc : 0 ≤ c ∧ c < W) : W * r + c < W * R := by
  have h1 : W * (r + 1) ≤ W * R := Int.mul_le_mul_of_nonneg_left (by omega) (by omega)
  rw [Int.mul_add, Int.mul_one] at h1
  omega
theorem y_M_drawRow {σ : pe_H} {r : Int} (hB : pe_B σ) (hW : 1 ≤ σ 29 21 ∧ σ 29 21 ≤ 24 ∧ 1 ≤ σ 29 22 ∧ σ 29 22 ≤ 8) (hr : 0 ≤ r ∧ r < σ 29 22) (hd : ((σ 29 43 = 8 ∧ σ 29 36 = 0 ∧ σ 29 37 = 0 ∧ σ 29 38 = 0 ∧ σ 29 39 = 0) ∧ ∀ j, 0 ≤ j → j < 192 → σ 42 j = 32 ∧ σ 43 j = 0)) (hg : (((σ 29 21 < 4 ∨ σ 29 22 < 2) → ∀ j, 0 ≤ j → j < 192 → σ 40 j = 32 ∧ σ 41 j = 0) ∧ (¬ (σ 29 21 < 4 ∨ σ 29 22 < 2) → (∀ j, 0 ≤ j → j < σ 29 21 → (32 ≤ σ 40 (σ 29 21 * (σ 29 22 - 1) + j) ∧ σ 40 (σ 29 21 * (σ 29 22 - 1) + j) ≤ 126) ∧ σ 41 (σ 29 21 * (σ 29 22 - 1) + j) = 1) ∧ ∀ j, 0 ≤ j → j < σ 29 21 * (σ 29 22 - 1) → σ 40 j = 32 ∧ σ 41 j = 0))) : pe_M m_M_drawRow [pe_r 29, pe_i r] σ (pe_qv (fun σ' => pe_B σ' ∧ (∀ b, b ∉ [29, 42, 43, 46] → σ' b = σ b) ∧ (∀ j, j ∉ ([36, 37, 38, 39, 40, 43] : List Int) → σ' 29 j = σ 29 j) ∧ ((r < σ 29 22 - 1 ∨ (σ 29 21 < 4 ∨ σ 29 22 < 2)) → ((σ' 29 43 = 8 ∧ σ' 29 36 = 0 ∧ σ' 29 37 = 0 ∧ σ' 29 38 = 0 ∧ σ' 29 39 = 0) ∧ ∀ j, 0 ≤ j → j < 192 → σ' 42 j = 32 ∧ σ' 43 j = 0)) ∧ (¬ (σ 29 21 < 4 ∨ σ 29 22 < 2) → r = σ 29 22 - 1 → σ' 29 36 = r ∧ (r = 1 → σ' 29 43 = 16 + σ 29 21) ∧ (r ≠ 1 → σ' 29 43 = 20 + σ 29 21)))) := by
  have ix : ∀ c, 0 ≤ c → c < σ 29 21 → 0 ≤ σ 29 21 * r ∧ σ 29 21 * r + c < 192 := fun c h1 h2 => by
    have q := pe_ix (r := r) (c := c) (H := σ 29 22) (W := σ 29 21) (by omega) (by omega) hr ⟨h1, h2⟩
    exact ⟨q.1, q.2.1⟩
  by_cases hs : (σ 29 21 < 4 ∨ σ 29 22 < 2)
  · refine (y_M_drawRow0 hB hW hr (fun c h1 h2 => ?_)).mono (fun x σ' h => ?_)
    · have i := ix c h1 h2
      have a := hg.1 hs (σ 29 21 * r + c) (by omega) (by omega)
      have b := hd.2 (σ 29 21 * r + c) (by omega) (by omega)
      omega
    · obtain ⟨rfl, rfl⟩ := h
      exact ⟨rfl, hB, fun _ _ => rfl, fun _ _ => rfl, fun _ => hd, fun h => absurd hs h⟩
  · by_cases hl : r = σ 29 22 - 1
    · refine (y_M_drawRow1 hB (by omega) hW (by omega) (fun c h1 h2 => ?_) (fun c h1 h2 => ?_) hd.1.2).mono (fun x σ' h => ?_)
      · have a := (hg.2 hs).1 c h1 h2
        rw [← hl] at a
        exact a
      · have i := ix c h1 h2
        exact hd.2 _ (by omega) (by omega)
      · obtain ⟨rfl, h1, h2, h3, h4⟩ := h
        exact ⟨rfl, h1, h2, h3, fun h => absurd h (by omega), fun _ _ => by omega⟩
    · refine (y_M_drawRow0 hB hW hr (fun c h1 h2 => ?_)).mono (fun x σ' h => ?_)
      · have i := ix c h1 h2
        have k := pe_ixr (W := σ 29 21) (r := r) (R := σ 29 22 - 1) (c := c) (by omega) (by omega) ⟨h1, h2⟩
        have a := (hg.2 hs).2 (σ 29 21 * r + c) (by omega) k
        have b := hd.2 (σ 29 21 * r + c) (by omega) (by omega)
        omega
      · obtain ⟨rfl, rfl⟩ := h
        exact ⟨rfl, hB, fun _ _ => rfl, fun _ _ => rfl, fun _ => hd, fun _ h => absurd h hl⟩
set_option maxHeartbeats 2000000 in
theorem y_M_draw {σ : pe_H} (hB : pe_B σ) (hW : 1 ≤ σ 29 21 ∧ σ 29 21 ≤ 24 ∧ 1 ≤ σ 29 22 ∧ σ 29 22 ≤ 8) (hF : (σ 29 1 = 0 ∧ σ 29 2 = 0 ∧ σ 29 3 = -1 ∧ σ 29 7 = 0 ∧ σ 29 27 = 0) ∧ (σ 29 41 = 1 ∧ σ 29 36 = 0 ∧ σ 29 37 = 0 ∧ σ 29 38 = 0 ∧ σ 29 39 = 0)) : pe_M m_M_draw [pe_r 29] σ (pe_qi (fun z σ' => pe_B σ' ∧ (∀ b, b ∉ [29, 37, 38, 39, 40, 41, 42, 43, 46] → σ' b = σ b) ∧ (∀ j, j ∉ ([26, 27, 30, 31, 36, 37, 38, 39, 40, 41, 43] : List Int) → σ' 29 j = σ 29 j) ∧ (((σ 29 21 < 4 ∨ σ 29 22 < 2) → z = 8) ∧ (¬ (σ 29 21 < 4 ∨ σ 29 22 < 2) → (σ 29 22 = 2 → z = 22 + σ 29 21) ∧ (σ 29 22 ≠ 2 → z = 26 + σ 29 21))))) := by
  refine pe_in0 (lv := [some (pe_r 29), none]) ?_
  have hB0 := hB
  have J84 : ∀ x : Int × pe_H, (pe_B x.2 ∧ (∀ b, b ∉ [29, 37, 38, 39, 40, 41, 42, 43, 46] → x.2 b = σ b) ∧ (∀ j, j ∉ ([26, 27, 30, 31, 36, 37, 38, 39, 40, 41, 43] : List Int) → x.2 29 j = σ 29 j) ∧ ((x.1 < σ 29 22 ∨ (σ 29 21 < 4 ∨ σ 29 22 < 2)) → ((x.2 29 43 = 8 ∧ x.2 29 36 = 0 ∧ x.2 29 37 = 0 ∧ x.2 29 38 = 0 ∧ x.2 29 39 = 0) ∧ ∀ j, 0 ≤ j → j < 192 → x.2 42 j = 32 ∧ x.2 43 j = 0)) ∧ (¬ (σ 29 21 < 4 ∨ σ 29 22 < 2) → x.1 = σ 29 22 → x.2 29 36 = σ 29 22 - 1 ∧ (σ 29 22 = 2 → x.2 29 43 = 16 + σ 29 21) ∧ (σ 29 22 ≠ 2 → x.2 29 43 = 20 + σ 29 21)) ∧ ((((σ 29 21 < 4 ∨ σ 29 22 < 2) → ∀ j, 0 ≤ j → j < 192 → x.2 40 j = 32 ∧ x.2 41 j = 0) ∧ (¬ (σ 29 21 < 4 ∨ σ 29 22 < 2) → (∀ j, 0 ≤ j → j < σ 29 21 → (32 ≤ x.2 40 (σ 29 21 * (σ 29 22 - 1) + j) ∧ x.2 40 (σ 29 21 * (σ 29 22 - 1) + j) ≤ 126) ∧ x.2 41 (σ 29 21 * (σ 29 22 - 1) + j) = 1) ∧ ∀ j, 0 ≤ j → j < σ 29 21 * (σ 29 22 - 1) → x.2 40 j = 32 ∧ x.2 41 j = 0))) ∧ (0 ≤ x.1 ∧ x.1 ≤ σ 29 22) ∧ (x.2 29 30 = 0 ∧ x.2 29 31 = 0)) → pe_G m_M_draw 84 [some (pe_r 29), some (pe_i x.1)] [] x.2 (pe_qi (fun z σ' => pe_B σ' ∧ (∀ b, b ∉ [29, 37, 38, 39, 40, 41, 42, 43, 46] → σ' b = σ b) ∧ (∀ j, j ∉ ([26, 27, 30, 31, 36, 37, 38, 39, 40, 41, 43] : List Int) → σ' 29 j = σ 29 j) ∧ (((σ 29 21 < 4 ∨ σ 29 22 < 2) → z = 8) ∧ (¬ (σ 29 21 < 4 ∨ σ 29 22 < 2) → (σ 29 22 = 2 → z = 22 + σ 29 21) ∧ (σ 29 22 ≠ 2 → z = 26 + σ 29 21))))) := by
    refine pe_loop (fun x : Int × pe_H => (100 - x.1).toNat) _ _ ?_
    intro x hI ih
    obtain ⟨i, τ⟩ := x
    dsimp only at hI ⊢
    obtain ⟨hB, hfr, hX⟩ := hI
    obtain ⟨hO, hd, hf, hg, hX⟩ := hX
    have c21 := hO 21 (by decide)
    have c22 := hO 22 (by decide)
    have hBt := hB
    refine pe_iload_n d_M_draw_84 rfl ?_
    refine pe_aload_n d_M_draw_85 rfl ?_
    refine pe_geti f_M_81 d_M_draw_86 rfl rfl 22 rfl ?_
    refine pe_icmp_ge (t := 103) d_M_draw_89 (by first | exact hB _ _ | exact hB0 _ _ | exact hBt _ _ | exact ⟨by omega, by omega⟩) (by first | exact hB _ _ | exact hB0 _ _ | exact hBt _ _ | exact ⟨by omega, by omega⟩) (fun h89 => ?_) (fun h89 => ?_)
    · skip
      have key : (((σ 29 21 < 4 ∨ σ 29 22 < 2)) ∧ τ 29 36 = 0 ∧ τ 29 37 = 0 ∧ τ 29 38 = 0 ∧ τ 29 43 = 8) ∨ (¬ ((σ 29 21 < 4 ∨ σ 29 22 < 2)) ∧ τ 29 36 = σ 29 22 - 1 ∧ (σ 29 22 = 2 → τ 29 43 = 16 + σ 29 21) ∧ (σ 29 22 ≠ 2 → τ 29 43 = 20 + σ 29 21)) := by
        by_cases hsm : (σ 29 21 < 4 ∨ σ 29 22 < 2)
        · have q := (hd (Or.inr hsm)).1
          exact Or.inl ⟨hsm, by omega⟩
        · have q := hf hsm (by omega)
          exact Or.inr ⟨hsm, q⟩
      refine pe_aload_n d_M_draw_103 rfl ?_
      refine pe_aload_n d_M_draw_104 rfl ?_
      refine pe_geti f_M_234 d_M_draw_105 rfl rfl 30 rfl ?_
      refine pe_aload_n d_M_draw_108 rfl ?_
      refine pe_geti f_M_237 d_M_draw_109 rfl rfl 31 rfl ?_
      refine pe_iconst d_M_draw_112 ?_
      refine pe_v3v d_M_draw_113 c_M_284 i_M_go s_M_go rfl rfl (y_M_go hB (by omega) (by omega) (by omega) (by omega) (by omega)) (fun σ113 hz113 => ?_)
      obtain ⟨hB, f113, o113, x113⟩ := hz113
      try have u113_0 : σ113 29 1 = τ 29 1 := by first | exact o113 1 (by decide) | exact congrFun (f113 29 (by decide)) 1
      try have u113_1 : σ113 29 2 = τ 29 2 := by first | exact o113 2 (by decide) | exact congrFun (f113 29 (by decide)) 2
      try have u113_2 : σ113 29 3 = τ 29 3 := by first | exact o113 3 (by decide) | exact congrFun (f113 29 (by decide)) 3
      try have u113_3 : σ113 29 7 = τ 29 7 := by first | exact o113 7 (by decide) | exact congrFun (f113 29 (by decide)) 7
      try have u113_4 : σ113 29 21 = τ 29 21 := by first | exact o113 21 (by decide) | exact congrFun (f113 29 (by decide)) 21
      try have u113_5 : σ113 29 22 = τ 29 22 := by first | exact o113 22 (by decide) | exact congrFun (f113 29 (by decide)) 22
      try have u113_6 : σ113 29 27 = τ 29 27 := by first | exact o113 27 (by decide) | exact congrFun (f113 29 (by decide)) 27
      try have u113_7 : σ113 29 30 = τ 29 30 := by first | exact o113 30 (by decide) | exact congrFun (f113 29 (by decide)) 30
      try have u113_8 : σ113 29 31 = τ 29 31 := by first | exact o113 31 (by decide) | exact congrFun (f113 29 (by decide)) 31
      try have u113_9 : σ113 29 36 = τ 29 36 := by first | exact o113 36 (by decide) | exact congrFun (f113 29 (by decide)) 36
      try have u113_10 : σ113 29 37 = τ 29 37 := by first | exact o113 37 (by decide) | exact congrFun (f113 29 (by decide)) 37
      try have u113_11 : σ113 29 38 = τ 29 38 := by first | exact o113 38 (by decide) | exact congrFun (f113 29 (by decide)) 38
      try have u113_12 : σ113 29 39 = τ 29 39 := by first | exact o113 39 (by decide) | exact congrFun (f113 29 (by decide)) 39
      try have u113_13 : σ113 29 40 = τ 29 40 := by first | exact o113 40 (by decide) | exact congrFun (f113 29 (by decide)) 40
      try have u113_14 : σ113 29 41 = τ 29 41 := by first | exact o113 41 (by decide) | exact congrFun (f113 29 (by decide)) 41
      try have u113_15 : σ113 29 43 = τ 29 43 := by first | exact o113 43 (by decide) | exact congrFun (f113 29 (by decide)) 43
      obtain ⟨x113, d113, y113⟩ := x113
      refine pe_aload_n d_M_draw_116 rfl ?_
      refine pe_geti f_M_250 d_M_draw_117 rfl rfl 43 rfl ?_
      refine pe_ri d_M_draw_120 ?_
      exact ⟨hB, (fun b hb => (f113 b (by simp at hb ⊢; try omega)).trans (hfr b (by simp at hb ⊢; try omega))), (fun j hj => (o113 j (by simp at hj ⊢; try omega)).trans (hO j hj)), by omega⟩
    · skip
      refine pe_aload_n d_M_draw_92 rfl ?_
      refine pe_iload_n d_M_draw_93 rfl ?_
      refine pe_v1v d_M_draw_94 c_M_306 i_M_drawRow s_M_drawRow rfl rfl (y_M_drawRow hB (by omega) (by omega) (hd (by omega)) (by rw [c21, c22]; exact hg)) (fun σ94 hz94 => ?_)
      obtain ⟨hB, f94, o94, x94⟩ := hz94
      try have u94_0 : σ94 29 1 = τ 29 1 := by first | exact o94 1 (by decide) | exact congrFun (f94 29 (by decide)) 1
      try have u94_1 : σ94 29 2 = τ 29 2 := by first | exact o94 2 (by decide) | exact congrFun (f94 29 (by decide)) 2
      try have u94_2 : σ94 29 3 = τ 29 3 := by first | exact o94 3 (by decide) | exact congrFun (f94 29 (by decide)) 3
      try have u94_3 : σ94 29 7 = τ 29 7 := by first | exact o94 7 (by decide) | exact congrFun (f94 29 (by decide)) 7
      try have u94_4 : σ94 29 21 = τ 29 21 := by first | exact o94 21 (by decide) | exact congrFun (f94 29 (by decide)) 21
      try have u94_5 : σ94 29 22 = τ 29 22 := by first | exact o94 22 (by decide) | exact congrFun (f94 29 (by decide)) 22
      try have u94_6 : σ94 29 27 = τ 29 27 := by first | exact o94 27 (by decide) | exact congrFun (f94 29 (by decide)) 27
      try have u94_7 : σ94 29 30 = τ 29 30 := by first | exact o94 30 (by decide) | exact congrFun (f94 29 (by decide)) 30
      try have u94_8 : σ94 29 31 = τ 29 31 := by first | exact o94 31 (by decide) | exact congrFun (f94 29 (by decide)) 31
      try have u94_9 : σ94 29 36 = τ 29 36 := by first | exact o94 36 (by decide) | exact congrFun (f94 29 (by decide)) 36
      try have u94_10 : σ94 29 37 = τ 29 37 := by first | exact o94 37 (by decide) | exact congrFun (f94 29 (by decide)) 37
      try have u94_11 : σ94 29 38 = τ 29 38 := by first | exact o94 38 (by decide) | exact congrFun (f94 29 (by decide)) 38
      try have u94_12 : σ94 29 39 = τ 29 39 := by first | exact o94 39 (by decide) | exact congrFun (f94 29 (by decide)) 39
      try have u94_13 : σ94 29 40 = τ 29 40 := by first | exact o94 40 (by decide) | exact congrFun (f94 29 (by decide)) 40
      try have u94_14 : σ94 29 41 = τ 29 41 := by first | exact o94 41 (by decide) | exact congrFun (f94 29 (by decide)) 41
      try have u94_15 : σ94 29 43 = τ 29 43 := by first | exact o94 43 (by decide) | exact congrFun (f94 29 (by decide)) 43
      rw [c21, c22] at x94
      refine pe_iinc d_M_draw_97 rfl ?_
      refine pe_goto (t := 84) d_M_draw_100 ?_
      exact ih (_, _) ⟨hB, (fun b hb => (f94 b (by simp at hb ⊢; try omega)).trans (hfr b (by simp at hb ⊢; try omega))), fun j hj => (o94 j (by simp at hj ⊢; omega)).trans (hO j hj), fun h => x94.1 (by (try dsimp only at h); omega), fun h1 h2 => by (try dsimp only at h2 ⊢); have q := x94.2 (by omega) (by omega); omega, by (try dsimp only); rw [f94 40 (by decide), f94 41 (by decide)]; exact hg, by (try dsimp only); omega, by (try dsimp only); have q1 := o94 30 (by decide); have q2 := o94 31 (by decide); omega⟩ (by (try dsimp only); omega)
  have J39 : ∀ x : Int × pe_H, (pe_B x.2 ∧ (∀ b, b ∉ [29, 37, 38, 39, 40, 41, 42, 43, 46] → x.2 b = σ b) ∧ (∀ j, j ∉ ([26, 27, 30, 31, 36, 37, 38, 39, 40, 41, 43] : List Int) → x.2 29 j = σ 29 j) ∧ (∀ j, 0 ≤ j → j < x.1 → x.2 42 j = 32 ∧ x.2 43 j = 0) ∧ ((((σ 29 21 < 4 ∨ σ 29 22 < 2) → ∀ j, 0 ≤ j → j < 192 → x.2 40 j = 32 ∧ x.2 41 j = 0) ∧ (¬ (σ 29 21 < 4 ∨ σ 29 22 < 2) → (∀ j, 0 ≤ j → j < σ 29 21 → (32 ≤ x.2 40 (σ 29 21 * (σ 29 22 - 1) + j) ∧ x.2 40 (σ 29 21 * (σ 29 22 - 1) + j) ≤ 126) ∧ x.2 41 (σ 29 21 * (σ 29 22 - 1) + j) = 1) ∧ ∀ j, 0 ≤ j → j < σ 29 21 * (σ 29 22 - 1) → x.2 40 j = 32 ∧ x.2 41 j = 0))) ∧ (0 ≤ x.1 ∧ x.1 ≤ 192) ∧ (x.2 29 30 = 0 ∧ x.2 29 31 = 0 ∧ x.2 29 43 = 8 ∧ x.2 29 36 = 0 ∧ x.2 29 37 = 0 ∧ x.2 29 39 = 0)) → pe_G m_M_draw 39 [some (pe_r 29), some (pe_i x.1)] [] x.2 (pe_qi (fun z σ' => pe_B σ' ∧ (∀ b, b ∉ [29, 37, 38, 39, 40, 41, 42, 43, 46] → σ' b = σ b) ∧ (∀ j, j ∉ ([26, 27, 30, 31, 36, 37, 38, 39, 40, 41, 43] : List Int) → σ' 29 j = σ 29 j) ∧ (((σ 29 21 < 4 ∨ σ 29 22 < 2) → z = 8) ∧ (¬ (σ 29 21 < 4 ∨ σ 29 22 < 2) → (σ 29 22 = 2 → z = 22 + σ 29 21) ∧ (σ 29 22 ≠ 2 → z = 26 + σ 29 21))))) := by
    refine pe_loop (fun x : Int × pe_H => (300 - x.1).toNat) _ _ ?_
    intro x hI ih
    obtain ⟨i, τ⟩ := x
    dsimp only at hI ⊢
    obtain ⟨hB, hfr, hX⟩ := hI
    obtain ⟨hO, hb, hg, hX⟩ := hX
    have c21 := hO 21 (by decide)
    have c22 := hO 22 (by decide)
    have hBt := hB
    refine pe_iload_n d_M_draw_39 rfl ?_
    refine pe_sipush d_M_draw_40 ?_
    refine pe_icmp_ge (t := 67) d_M_draw_43 (by first | exact hB _ _ | exact hB0 _ _ | exact hBt _ _ | exact ⟨by omega, by omega⟩) (by first | exact hB _ _ | exact hB0 _ _ | exact hBt _ _ | exact ⟨by omega, by omega⟩) (fun h43 => ?_) (fun h43 => ?_)
    · skip
      refine pe_aload_n d_M_draw_67 rfl ?_
      refine pe_iconst d_M_draw_68 ?_
      refine pe_putzT f_M_260 g_11_38 d_M_draw_69 rfl rfl (by first | exact Or.inl rfl | exact Or.inr rfl | omega) 38 rfl hB (fun σ69 hB e69 o69 f69 => ?_)
      try have u69_0 : σ69 29 1 = τ 29 1 := by first | exact o69 1 (by decide) | exact congrFun (f69 29 (by decide)) 1
      try have u69_1 : σ69 29 2 = τ 29 2 := by first | exact o69 2 (by decide) | exact congrFun (f69 29 (by decide)) 2
      try have u69_2 : σ69 29 3 = τ 29 3 := by first | exact o69 3 (by decide) | exact congrFun (f69 29 (by decide)) 3
      try have u69_3 : σ69 29 7 = τ 29 7 := by first | exact o69 7 (by decide) | exact congrFun (f69 29 (by decide)) 7
      try have u69_4 : σ69 29 21 = τ 29 21 := by first | exact o69 21 (by decide) | exact congrFun (f69 29 (by decide)) 21
      try have u69_5 : σ69 29 22 = τ 29 22 := by first | exact o69 22 (by decide) | exact congrFun (f69 29 (by decide)) 22
      try have u69_6 : σ69 29 27 = τ 29 27 := by first | exact o69 27 (by decide) | exact congrFun (f69 29 (by decide)) 27
      try have u69_7 : σ69 29 30 = τ 29 30 := by first | exact o69 30 (by decide) | exact congrFun (f69 29 (by decide)) 30
      try have u69_8 : σ69 29 31 = τ 29 31 := by first | exact o69 31 (by decide) | exact congrFun (f69 29 (by decide)) 31
      try have u69_9 : σ69 29 36 = τ 29 36 := by first | exact o69 36 (by decide) | exact congrFun (f69 29 (by decide)) 36
      try have u69_10 : σ69 29 37 = τ 29 37 := by first | exact o69 37 (by decide) | exact congrFun (f69 29 (by decide)) 37
      try have u69_11 : σ69 29 38 = τ 29 38 := by first | exact o69 38 (by decide) | exact congrFun (f69 29 (by decide)) 38
      try have u69_12 : σ69 29 39 = τ 29 39 := by first | exact o69 39 (by decide) | exact congrFun (f69 29 (by decide)) 39
      try have u69_13 : σ69 29 40 = τ 29 40 := by first | exact o69 40 (by decide) | exact congrFun (f69 29 (by decide)) 40
      try have u69_14 : σ69 29 41 = τ 29 41 := by first | exact o69 41 (by decide) | exact congrFun (f69 29 (by decide)) 41
      try have u69_15 : σ69 29 43 = τ 29 43 := by first | exact o69 43 (by decide) | exact congrFun (f69 29 (by decide)) 43
      refine pe_aload_n d_M_draw_72 rfl ?_
      refine pe_iconst d_M_draw_73 ?_
      refine pe_putiT f_M_68 g_11_40 d_M_draw_74 rfl rfl 40 rfl hB (by first | exact hB _ _ | exact hB0 _ _ | exact hBt _ _ | exact ⟨by omega, by omega⟩) (fun σ74 hB e74 o74 f74 => ?_)
      try have u74_0 : σ74 29 1 = σ69 29 1 := by first | exact o74 1 (by decide) | exact congrFun (f74 29 (by decide)) 1
      try have u74_1 : σ74 29 2 = σ69 29 2 := by first | exact o74 2 (by decide) | exact congrFun (f74 29 (by decide)) 2
      try have u74_2 : σ74 29 3 = σ69 29 3 := by first | exact o74 3 (by decide) | exact congrFun (f74 29 (by decide)) 3
      try have u74_3 : σ74 29 7 = σ69 29 7 := by first | exact o74 7 (by decide) | exact congrFun (f74 29 (by decide)) 7
      try have u74_4 : σ74 29 21 = σ69 29 21 := by first | exact o74 21 (by decide) | exact congrFun (f74 29 (by decide)) 21
      try have u74_5 : σ74 29 22 = σ69 29 22 := by first | exact o74 22 (by decide) | exact congrFun (f74 29 (by decide)) 22
      try have u74_6 : σ74 29 27 = σ69 29 27 := by first | exact o74 27 (by decide) | exact congrFun (f74 29 (by decide)) 27
      try have u74_7 : σ74 29 30 = σ69 29 30 := by first | exact o74 30 (by decide) | exact congrFun (f74 29 (by decide)) 30
      try have u74_8 : σ74 29 31 = σ69 29 31 := by first | exact o74 31 (by decide) | exact congrFun (f74 29 (by decide)) 31
      try have u74_9 : σ74 29 36 = σ69 29 36 := by first | exact o74 36 (by decide) | exact congrFun (f74 29 (by decide)) 36
      try have u74_10 : σ74 29 37 = σ69 29 37 := by first | exact o74 37 (by decide) | exact congrFun (f74 29 (by decide)) 37
      try have u74_11 : σ74 29 38 = σ69 29 38 := by first | exact o74 38 (by decide) | exact congrFun (f74 29 (by decide)) 38
      try have u74_12 : σ74 29 39 = σ69 29 39 := by first | exact o74 39 (by decide) | exact congrFun (f74 29 (by decide)) 39
      try have u74_13 : σ74 29 40 = σ69 29 40 := by first | exact o74 40 (by decide) | exact congrFun (f74 29 (by decide)) 40
      try have u74_14 : σ74 29 41 = σ69 29 41 := by first | exact o74 41 (by decide) | exact congrFun (f74 29 (by decide)) 41
      try have u74_15 : σ74 29 43 = σ69 29 43 := by first | exact o74 43 (by decide) | exact congrFun (f74 29 (by decide)) 43
      refine pe_aload_n d_M_draw_77 rfl ?_
      refine pe_iconst d_M_draw_78 ?_
      refine pe_putzT f_M_71 g_11_41 d_M_draw_79 rfl rfl (by first | exact Or.inl rfl | exact Or.inr rfl | omega) 41 rfl hB (fun σ79 hB e79 o79 f79 => ?_)
      try have u79_0 : σ79 29 1 = σ74 29 1 := by first | exact o79 1 (by decide) | exact congrFun (f79 29 (by decide)) 1
      try have u79_1 : σ79 29 2 = σ74 29 2 := by first | exact o79 2 (by decide) | exact congrFun (f79 29 (by decide)) 2
      try have u79_2 : σ79 29 3 = σ74 29 3 := by first | exact o79 3 (by decide) | exact congrFun (f79 29 (by decide)) 3
      try have u79_3 : σ79 29 7 = σ74 29 7 := by first | exact o79 7 (by decide) | exact congrFun (f79 29 (by decide)) 7
      try have u79_4 : σ79 29 21 = σ74 29 21 := by first | exact o79 21 (by decide) | exact congrFun (f79 29 (by decide)) 21
      try have u79_5 : σ79 29 22 = σ74 29 22 := by first | exact o79 22 (by decide) | exact congrFun (f79 29 (by decide)) 22
      try have u79_6 : σ79 29 27 = σ74 29 27 := by first | exact o79 27 (by decide) | exact congrFun (f79 29 (by decide)) 27
      try have u79_7 : σ79 29 30 = σ74 29 30 := by first | exact o79 30 (by decide) | exact congrFun (f79 29 (by decide)) 30
      try have u79_8 : σ79 29 31 = σ74 29 31 := by first | exact o79 31 (by decide) | exact congrFun (f79 29 (by decide)) 31
      try have u79_9 : σ79 29 36 = σ74 29 36 := by first | exact o79 36 (by decide) | exact congrFun (f79 29 (by decide)) 36
      try have u79_10 : σ79 29 37 = σ74 29 37 := by first | exact o79 37 (by decide) | exact congrFun (f79 29 (by decide)) 37
      try have u79_11 : σ79 29 38 = σ74 29 38 := by first | exact o79 38 (by decide) | exact congrFun (f79 29 (by decide)) 38
      try have u79_12 : σ79 29 39 = σ74 29 39 := by first | exact o79 39 (by decide) | exact congrFun (f79 29 (by decide)) 39
      try have u79_13 : σ79 29 40 = σ74 29 40 := by first | exact o79 40 (by decide) | exact congrFun (f79 29 (by decide)) 40
      try have u79_14 : σ79 29 41 = σ74 29 41 := by first | exact o79 41 (by decide) | exact congrFun (f79 29 (by decide)) 41
      try have u79_15 : σ79 29 43 = σ74 29 43 := by first | exact o79 43 (by decide) | exact congrFun (f79 29 (by decide)) 43
      refine pe_iconst d_M_draw_82 ?_
      refine pe_istore_n d_M_draw_83 ?_
      first | (exfalso; omega) | exact J84 (_, _) ⟨hB, (fun b hb => (f79 b (by simp at hb ⊢; try omega)).trans ((f74 b (by simp at hb ⊢; try omega)).trans ((f69 b (by simp at hb ⊢; try omega)).trans (hfr b (by simp at hb ⊢; try omega))))), (fun j hj => (o79 j (by simp at hj ⊢; try omega)).trans ((o74 j (by simp at hj ⊢; try omega)).trans ((o69 j (by simp at hj ⊢; try omega)).trans (hO j hj)))), fun _ => ⟨by (try dsimp only); omega, by (try dsimp only); rw [((f79 42 (by decide)).trans ((f74 42 (by decide)).trans ((f69 42 (by decide)).trans (rfl)))), ((f79 43 (by decide)).trans ((f74 43 (by decide)).trans ((f69 43 (by decide)).trans (rfl))))]; exact fun j h1 h2 => hb j h1 (by omega)⟩, fun _ h => by (try dsimp only at h); omega, by (try dsimp only); rw [((f79 40 (by decide)).trans ((f74 40 (by decide)).trans ((f69 40 (by decide)).trans (rfl)))), ((f79 41 (by decide)).trans ((f74 41 (by decide)).trans ((f69 41 (by decide)).trans (rfl))))]; exact hg, by (try dsimp only); omega, by (try dsimp only); omega⟩
    · skip
      refine pe_aload_n d_M_draw_46 rfl ?_
      refine pe_getr f_M_56 d_M_draw_47 rfl rfl ?_
      refine pe_iload_n d_M_draw_50 rfl ?_
      refine pe_bipush d_M_draw_51 ?_
      refine pe_iastT d_M_draw_53 rfl (by omega) (by omega) hB (by first | exact hB _ _ | exact hB0 _ _ | exact hBt _ _ | exact ⟨by omega, by omega⟩) (fun σ53 hB e53 o53 f53 => ?_)
      try have u53_0 : σ53 29 1 = τ 29 1 := by first | exact o53 1 (by decide) | exact congrFun (f53 29 (by decide)) 1
      try have u53_1 : σ53 29 2 = τ 29 2 := by first | exact o53 2 (by decide) | exact congrFun (f53 29 (by decide)) 2
      try have u53_2 : σ53 29 3 = τ 29 3 := by first | exact o53 3 (by decide) | exact congrFun (f53 29 (by decide)) 3
      try have u53_3 : σ53 29 7 = τ 29 7 := by first | exact o53 7 (by decide) | exact congrFun (f53 29 (by decide)) 7
      try have u53_4 : σ53 29 21 = τ 29 21 := by first | exact o53 21 (by decide) | exact congrFun (f53 29 (by decide)) 21
      try have u53_5 : σ53 29 22 = τ 29 22 := by first | exact o53 22 (by decide) | exact congrFun (f53 29 (by decide)) 22
      try have u53_6 : σ53 29 27 = τ 29 27 := by first | exact o53 27 (by decide) | exact congrFun (f53 29 (by decide)) 27
      try have u53_7 : σ53 29 30 = τ 29 30 := by first | exact o53 30 (by decide) | exact congrFun (f53 29 (by decide)) 30
      try have u53_8 : σ53 29 31 = τ 29 31 := by first | exact o53 31 (by decide) | exact congrFun (f53 29 (by decide)) 31
      try have u53_9 : σ53 29 36 = τ 29 36 := by first | exact o53 36 (by decide) | exact congrFun (f53 29 (by decide)) 36
      try have u53_10 : σ53 29 37 = τ 29 37 := by first | exact o53 37 (by decide) | exact congrFun (f53 29 (by decide)) 37
      try have u53_11 : σ53 29 38 = τ 29 38 := by first | exact o53 38 (by decide) | exact congrFun (f53 29 (by decide)) 38
      try have u53_12 : σ53 29 39 = τ 29 39 := by first | exact o53 39 (by decide) | exact congrFun (f53 29 (by decide)) 39
      try have u53_13 : σ53 29 40 = τ 29 40 := by first | exact o53 40 (by decide) | exact congrFun (f53 29 (by decide)) 40
      try have u53_14 : σ53 29 41 = τ 29 41 := by first | exact o53 41 (by decide) | exact congrFun (f53 29 (by decide)) 41
      try have u53_15 : σ53 29 43 = τ 29 43 := by first | exact o53 43 (by decide) | exact congrFun (f53 29 (by decide)) 43
      refine pe_aload_n d_M_draw_54 rfl ?_
      refine pe_getr f_M_59 d_M_draw_55 rfl rfl ?_
      refine pe_iload_n d_M_draw_58 rfl ?_
      refine pe_iconst d_M_draw_59 ?_
      refine pe_iastT d_M_draw_60 rfl (by omega) (by omega) hB (by first | exact hB _ _ | exact hB0 _ _ | exact hBt _ _ | exact ⟨by omega, by omega⟩) (fun σ60 hB e60 o60 f60 => ?_)
      try have u60_0 : σ60 29 1 = σ53 29 1 := by first | exact o60 1 (by decide) | exact congrFun (f60 29 (by decide)) 1
      try have u60_1 : σ60 29 2 = σ53 29 2 := by first | exact o60 2 (by decide) | exact congrFun (f60 29 (by decide)) 2
      try have u60_2 : σ60 29 3 = σ53 29 3 := by first | exact o60 3 (by decide) | exact congrFun (f60 29 (by decide)) 3
      try have u60_3 : σ60 29 7 = σ53 29 7 := by first | exact o60 7 (by decide) | exact congrFun (f60 29 (by decide)) 7
      try have u60_4 : σ60 29 21 = σ53 29 21 := by first | exact o60 21 (by decide) | exact congrFun (f60 29 (by decide)) 21
      try have u60_5 : σ60 29 22 = σ53 29 22 := by first | exact o60 22 (by decide) | exact congrFun (f60 29 (by decide)) 22
      try have u60_6 : σ60 29 27 = σ53 29 27 := by first | exact o60 27 (by decide) | exact congrFun (f60 29 (by decide)) 27
      try have u60_7 : σ60 29 30 = σ53 29 30 := by first | exact o60 30 (by decide) | exact congrFun (f60 29 (by decide)) 30
      try have u60_8 : σ60 29 31 = σ53 29 31 := by first | exact o60 31 (by decide) | exact congrFun (f60 29 (by decide)) 31
      try have u60_9 : σ60 29 36 = σ53 29 36 := by first | exact o60 36 (by decide) | exact congrFun (f60 29 (by decide)) 36
      try have u60_10 : σ60 29 37 = σ53 29 37 := by first | exact o60 37 (by decide) | exact congrFun (f60 29 (by decide)) 37
      try have u60_11 : σ60 29 38 = σ53 29 38 := by first | exact o60 38 (by decide) | exact congrFun (f60 29 (by decide)) 38
      try have u60_12 : σ60 29 39 = σ53 29 39 := by first | exact o60 39 (by decide) | exact congrFun (f60 29 (by decide)) 39
      try have u60_13 : σ60 29 40 = σ53 29 40 := by first | exact o60 40 (by decide) | exact congrFun (f60 29 (by decide)) 40
      try have u60_14 : σ60 29 41 = σ53 29 41 := by first | exact o60 41 (by decide) | exact congrFun (f60 29 (by decide)) 41
      try have u60_15 : σ60 29 43 = σ53 29 43 := by first | exact o60 43 (by decide) | exact congrFun (f60 29 (by decide)) 43
      refine pe_iinc d_M_draw_61 rfl ?_
      refine pe_goto (t := 39) d_M_draw_64 ?_
      exact ih (_, _) ⟨hB, (fun b hb => (f60 b (by simp at hb ⊢; try omega)).trans ((f53 b (by simp at hb ⊢; try omega)).trans (hfr b (by simp at hb ⊢; try omega)))), (fun j hj => (congrFun (f60 29 (by decide)) j).trans ((congrFun (f53 29 (by decide)) j).trans (hO j hj))), fun j h1 h2 => by
        (try dsimp only at h2 ⊢)
        by_cases q : j = i
        · rw [q, f60 42 (by decide), e53, e60]; exact ⟨rfl, rfl⟩
        · rw [f60 42 (by decide), o53 j q, o60 j q, f53 43 (by decide)]; exact hb j h1 (by omega), by (try dsimp only); rw [f60 40 (by decide), f53 40 (by decide), f60 41 (by decide), f53 41 (by decide)]; exact hg, by (try dsimp only); omega, by (try dsimp only); omega⟩ (by (try dsimp only); omega)
  refine pe_aload_n d_M_draw_0 rfl ?_
  refine pe_iconst d_M_draw_1 ?_
  refine pe_putiT f_M_250 g_11_43 d_M_draw_2 rfl rfl 43 rfl hB (by first | exact hB _ _ | exact hB0 _ _ | exact hBt _ _ | exact ⟨by omega, by omega⟩) (fun σ2 hB e2 o2 f2 => ?_)
  try have u2_0 : σ2 29 1 = σ 29 1 := by first | exact o2 1 (by decide) | exact congrFun (f2 29 (by decide)) 1
  try have u2_1 : σ2 29 2 = σ 29 2 := by first | exact o2 2 (by decide) | exact congrFun (f2 29 (by decide)) 2
  try have u2_2 : σ2 29 3 = σ 29 3 := by first | exact o2 3 (by decide) | exact congrFun (f2 29 (by decide)) 3
  try have u2_3 : σ2 29 7 = σ 29 7 := by first | exact o2 7 (by decide) | exact congrFun (f2 29 (by decide)) 7
  try have u2_4 : σ2 29 21 = σ 29 21 := by first | exact o2 21 (by decide) | exact congrFun (f2 29 (by decide)) 21
  try have u2_5 : σ2 29 22 = σ 29 22 := by first | exact o2 22 (by decide) | exact congrFun (f2 29 (by decide)) 22
  try have u2_6 : σ2 29 27 = σ 29 27 := by first | exact o2 27 (by decide) | exact congrFun (f2 29 (by decide)) 27
  try have u2_7 : σ2 29 30 = σ 29 30 := by first | exact o2 30 (by decide) | exact congrFun (f2 29 (by decide)) 30
  try have u2_8 : σ2 29 31 = σ 29 31 := by first | exact o2 31 (by decide) | exact congrFun (f2 29 (by decide)) 31
  try have u2_9 : σ2 29 36 = σ 29 36 := by first | exact o2 36 (by decide) | exact congrFun (f2 29 (by decide)) 36
  try have u2_10 : σ2 29 37 = σ 29 37 := by first | exact o2 37 (by decide) | exact congrFun (f2 29 (by decide)) 37
  try have u2_11 : σ2 29 38 = σ 29 38 := by first | exact o2 38 (by decide) | exact congrFun (f2 29 (by decide)) 38
  try have u2_12 : σ2 29 39 = σ 29 39 := by first | exact o2 39 (by decide) | exact congrFun (f2 29 (by decide)) 39
  try have u2_13 : σ2 29 40 = σ 29 40 := by first | exact o2 40 (by decide) | exact congrFun (f2 29 (by decide)) 40
  try have u2_14 : σ2 29 41 = σ 29 41 := by first | exact o2 41 (by decide) | exact congrFun (f2 29 (by decide)) 41
  try have u2_15 : σ2 29 43 = σ 29 43 := by first | exact o2 43 (by decide) | exact congrFun (f2 29 (by decide)) 43
  refine pe_aload_n d_M_draw_5 rfl ?_
  refine pe_v0v d_M_draw_6 c_M_303 i_M_compose s_M_compose rfl rfl (y_M_compose hB (by omega) (by omega)) (fun σ6 hz6 => ?_)
  obtain ⟨hB, f6, o6, x6⟩ := hz6
  try have u6_0 : σ6 29 1 = σ2 29 1 := by first | exact o6 1 (by decide) | exact congrFun (f6 29 (by decide)) 1
  try have u6_1 : σ6 29 2 = σ2 29 2 := by first | exact o6 2 (by decide) | exact congrFun (f6 29 (by decide)) 2
  try have u6_2 : σ6 29 3 = σ2 29 3 := by first | exact o6 3 (by decide) | exact congrFun (f6 29 (by decide)) 3
  try have u6_3 : σ6 29 7 = σ2 29 7 := by first | exact o6 7 (by decide) | exact congrFun (f6 29 (by decide)) 7
  try have u6_4 : σ6 29 21 = σ2 29 21 := by first | exact o6 21 (by decide) | exact congrFun (f6 29 (by decide)) 21
  try have u6_5 : σ6 29 22 = σ2 29 22 := by first | exact o6 22 (by decide) | exact congrFun (f6 29 (by decide)) 22
  try have u6_6 : σ6 29 27 = σ2 29 27 := by first | exact o6 27 (by decide) | exact congrFun (f6 29 (by decide)) 27
  try have u6_7 : σ6 29 30 = σ2 29 30 := by first | exact o6 30 (by decide) | exact congrFun (f6 29 (by decide)) 30
  try have u6_8 : σ6 29 31 = σ2 29 31 := by first | exact o6 31 (by decide) | exact congrFun (f6 29 (by decide)) 31
  try have u6_9 : σ6 29 36 = σ2 29 36 := by first | exact o6 36 (by decide) | exact congrFun (f6 29 (by decide)) 36
  try have u6_10 : σ6 29 37 = σ2 29 37 := by first | exact o6 37 (by decide) | exact congrFun (f6 29 (by decide)) 37
  try have u6_11 : σ6 29 38 = σ2 29 38 := by first | exact o6 38 (by decide) | exact congrFun (f6 29 (by decide)) 38
  try have u6_12 : σ6 29 39 = σ2 29 39 := by first | exact o6 39 (by decide) | exact congrFun (f6 29 (by decide)) 39
  try have u6_13 : σ6 29 40 = σ2 29 40 := by first | exact o6 40 (by decide) | exact congrFun (f6 29 (by decide)) 40
  try have u6_14 : σ6 29 41 = σ2 29 41 := by first | exact o6 41 (by decide) | exact congrFun (f6 29 (by decide)) 41
  try have u6_15 : σ6 29 43 = σ2 29 43 := by first | exact o6 43 (by decide) | exact congrFun (f6 29 (by decide)) 43
  have cp := x6.1
  have w21 := u2_4
  have w22 := u2_5
  refine pe_aload_n d_M_draw_9 rfl ?_
  refine pe_geti f_M_71 d_M_draw_10 rfl rfl 41 rfl ?_
  refine pe_if_eq (t := 82) d_M_draw_13 (by first | exact hB _ _ | exact hB0 _ _ | exact hBt _ _ | exact ⟨by omega, by omega⟩) (fun h13 => ?_) (fun h13 => ?_)
  · skip
    refine pe_iconst d_M_draw_82 ?_
    refine pe_istore_n d_M_draw_83 ?_
    first | (exfalso; omega) | exact J84 (_, _) ⟨hB, (fun b hb => (f6 b (by simp at hb ⊢; try omega)).trans ((f2 b (by simp at hb ⊢; try omega)).trans (rfl))), (fun j hj => (o6 j (by simp at hj ⊢; try omega)).trans ((o2 j (by simp at hj ⊢; try omega)).trans (rfl))), fun _ => ⟨by (try dsimp only); omega, by (try dsimp only); rw [((f6 42 (by decide)).trans ((f2 42 (by decide)).trans (rfl))), ((f6 43 (by decide)).trans ((f2 43 (by decide)).trans (rfl)))]; exact fun j h1 h2 => hb j h1 (by omega)⟩, fun _ h => by (try dsimp only at h); omega, by (try dsimp only); rw [((f6 40 (by decide)).trans ((f2 40 (by decide)).trans (rfl))), ((f6 41 (by decide)).trans ((f2 41 (by decide)).trans (rfl)))]; exact hg, by (try dsimp only); omega, by (try dsimp only); omega⟩
  · skip
    refine pe_aload_n d_M_draw_16 rfl ?_
    refine pe_iconst d_M_draw_17 ?_
    refine pe_v1v d_M_draw_18 c_M_288 i_M_setLook s_M_setLook rfl rfl (y_M_setLook hB (by omega) (by omega)) (fun σ18 hz18 => ?_)
    obtain ⟨hB, f18, o18, x18⟩ := hz18
    try have u18_0 : σ18 29 1 = σ6 29 1 := by first | exact o18 1 (by decide) | exact congrFun (f18 29 (by decide)) 1
    try have u18_1 : σ18 29 2 = σ6 29 2 := by first | exact o18 2 (by decide) | exact congrFun (f18 29 (by decide)) 2
    try have u18_2 : σ18 29 3 = σ6 29 3 := by first | exact o18 3 (by decide) | exact congrFun (f18 29 (by decide)) 3
    try have u18_3 : σ18 29 7 = σ6 29 7 := by first | exact o18 7 (by decide) | exact congrFun (f18 29 (by decide)) 7
    try have u18_4 : σ18 29 21 = σ6 29 21 := by first | exact o18 21 (by decide) | exact congrFun (f18 29 (by decide)) 21
    try have u18_5 : σ18 29 22 = σ6 29 22 := by first | exact o18 22 (by decide) | exact congrFun (f18 29 (by decide)) 22
    try have u18_6 : σ18 29 27 = σ6 29 27 := by first | exact o18 27 (by decide) | exact congrFun (f18 29 (by decide)) 27
    try have u18_7 : σ18 29 30 = σ6 29 30 := by first | exact o18 30 (by decide) | exact congrFun (f18 29 (by decide)) 30
    try have u18_8 : σ18 29 31 = σ6 29 31 := by first | exact o18 31 (by decide) | exact congrFun (f18 29 (by decide)) 31
    try have u18_9 : σ18 29 36 = σ6 29 36 := by first | exact o18 36 (by decide) | exact congrFun (f18 29 (by decide)) 36
    try have u18_10 : σ18 29 37 = σ6 29 37 := by first | exact o18 37 (by decide) | exact congrFun (f18 29 (by decide)) 37
    try have u18_11 : σ18 29 38 = σ6 29 38 := by first | exact o18 38 (by decide) | exact congrFun (f18 29 (by decide)) 38
    try have u18_12 : σ18 29 39 = σ6 29 39 := by first | exact o18 39 (by decide) | exact congrFun (f18 29 (by decide)) 39
    try have u18_13 : σ18 29 40 = σ6 29 40 := by first | exact o18 40 (by decide) | exact congrFun (f18 29 (by decide)) 40
    try have u18_14 : σ18 29 41 = σ6 29 41 := by first | exact o18 41 (by decide) | exact congrFun (f18 29 (by decide)) 41
    try have u18_15 : σ18 29 43 = σ6 29 43 := by first | exact o18 43 (by decide) | exact congrFun (f18 29 (by decide)) 43
    refine pe_aload_n d_M_draw_21 rfl ?_
    refine pe_v0v d_M_draw_22 c_M_275 i_M_putBegin s_M_putBegin rfl rfl (y_M_putBegin hB (by omega)) (fun σ22 hz22 => ?_)
    obtain ⟨hB, f22, o22, x22⟩ := hz22
    try have u22_0 : σ22 29 1 = σ18 29 1 := by first | exact o22 1 (by decide) | exact congrFun (f22 29 (by decide)) 1
    try have u22_1 : σ22 29 2 = σ18 29 2 := by first | exact o22 2 (by decide) | exact congrFun (f22 29 (by decide)) 2
    try have u22_2 : σ22 29 3 = σ18 29 3 := by first | exact o22 3 (by decide) | exact congrFun (f22 29 (by decide)) 3
    try have u22_3 : σ22 29 7 = σ18 29 7 := by first | exact o22 7 (by decide) | exact congrFun (f22 29 (by decide)) 7
    try have u22_4 : σ22 29 21 = σ18 29 21 := by first | exact o22 21 (by decide) | exact congrFun (f22 29 (by decide)) 21
    try have u22_5 : σ22 29 22 = σ18 29 22 := by first | exact o22 22 (by decide) | exact congrFun (f22 29 (by decide)) 22
    try have u22_6 : σ22 29 27 = σ18 29 27 := by first | exact o22 27 (by decide) | exact congrFun (f22 29 (by decide)) 27
    try have u22_7 : σ22 29 30 = σ18 29 30 := by first | exact o22 30 (by decide) | exact congrFun (f22 29 (by decide)) 30
    try have u22_8 : σ22 29 31 = σ18 29 31 := by first | exact o22 31 (by decide) | exact congrFun (f22 29 (by decide)) 31
    try have u22_9 : σ22 29 36 = σ18 29 36 := by first | exact o22 36 (by decide) | exact congrFun (f22 29 (by decide)) 36
    try have u22_10 : σ22 29 37 = σ18 29 37 := by first | exact o22 37 (by decide) | exact congrFun (f22 29 (by decide)) 37
    try have u22_11 : σ22 29 38 = σ18 29 38 := by first | exact o22 38 (by decide) | exact congrFun (f22 29 (by decide)) 38
    try have u22_12 : σ22 29 39 = σ18 29 39 := by first | exact o22 39 (by decide) | exact congrFun (f22 29 (by decide)) 39
    try have u22_13 : σ22 29 40 = σ18 29 40 := by first | exact o22 40 (by decide) | exact congrFun (f22 29 (by decide)) 40
    try have u22_14 : σ22 29 41 = σ18 29 41 := by first | exact o22 41 (by decide) | exact congrFun (f22 29 (by decide)) 41
    try have u22_15 : σ22 29 43 = σ18 29 43 := by first | exact o22 43 (by decide) | exact congrFun (f22 29 (by decide)) 43
    refine pe_aload_n d_M_draw_25 rfl ?_
    refine pe_bipush d_M_draw_26 ?_
    refine pe_any (fun v28 hv28 => ?_)
    refine pe_v1v d_M_draw_28 c_M_253 i_M_put s_M_put rfl rfl (y_M_put hB (by omega) (by first | exact hB _ _ | exact hB0 _ _ | exact hBt _ _ | exact ⟨by omega, by omega⟩)) (fun σ28 hz28 => ?_)
    obtain ⟨hB, f28, o28, x28⟩ := hz28
    try have u28_0 : σ28 29 1 = σ22 29 1 := by first | exact o28 1 (by decide) | exact congrFun (f28 29 (by decide)) 1
    try have u28_1 : σ28 29 2 = σ22 29 2 := by first | exact o28 2 (by decide) | exact congrFun (f28 29 (by decide)) 2
    try have u28_2 : σ28 29 3 = σ22 29 3 := by first | exact o28 3 (by decide) | exact congrFun (f28 29 (by decide)) 3
    try have u28_3 : σ28 29 7 = σ22 29 7 := by first | exact o28 7 (by decide) | exact congrFun (f28 29 (by decide)) 7
    try have u28_4 : σ28 29 21 = σ22 29 21 := by first | exact o28 21 (by decide) | exact congrFun (f28 29 (by decide)) 21
    try have u28_5 : σ28 29 22 = σ22 29 22 := by first | exact o28 22 (by decide) | exact congrFun (f28 29 (by decide)) 22
    try have u28_6 : σ28 29 27 = σ22 29 27 := by first | exact o28 27 (by decide) | exact congrFun (f28 29 (by decide)) 27
    try have u28_7 : σ28 29 30 = σ22 29 30 := by first | exact o28 30 (by decide) | exact congrFun (f28 29 (by decide)) 30
    try have u28_8 : σ28 29 31 = σ22 29 31 := by first | exact o28 31 (by decide) | exact congrFun (f28 29 (by decide)) 31
    try have u28_9 : σ28 29 36 = σ22 29 36 := by first | exact o28 36 (by decide) | exact congrFun (f28 29 (by decide)) 36
    try have u28_10 : σ28 29 37 = σ22 29 37 := by first | exact o28 37 (by decide) | exact congrFun (f28 29 (by decide)) 37
    try have u28_11 : σ28 29 38 = σ22 29 38 := by first | exact o28 38 (by decide) | exact congrFun (f28 29 (by decide)) 38
    try have u28_12 : σ28 29 39 = σ22 29 39 := by first | exact o28 39 (by decide) | exact congrFun (f28 29 (by decide)) 39
    try have u28_13 : σ28 29 40 = σ22 29 40 := by first | exact o28 40 (by decide) | exact congrFun (f28 29 (by decide)) 40
    try have u28_14 : σ28 29 41 = σ22 29 41 := by first | exact o28 41 (by decide) | exact congrFun (f28 29 (by decide)) 41
    try have u28_15 : σ28 29 43 = σ22 29 43 := by first | exact o28 43 (by decide) | exact congrFun (f28 29 (by decide)) 43
    refine pe_aload_n d_M_draw_31 rfl ?_
    refine pe_bipush d_M_draw_32 ?_
    refine pe_any (fun v34 hv34 => ?_)
    refine pe_v1v d_M_draw_34 c_M_253 i_M_put s_M_put rfl rfl (y_M_put hB (by omega) (by first | exact hB _ _ | exact hB0 _ _ | exact hBt _ _ | exact ⟨by omega, by omega⟩)) (fun σ34 hz34 => ?_)
    obtain ⟨hB, f34, o34, x34⟩ := hz34
    try have u34_0 : σ34 29 1 = σ28 29 1 := by first | exact o34 1 (by decide) | exact congrFun (f34 29 (by decide)) 1
    try have u34_1 : σ34 29 2 = σ28 29 2 := by first | exact o34 2 (by decide) | exact congrFun (f34 29 (by decide)) 2
    try have u34_2 : σ34 29 3 = σ28 29 3 := by first | exact o34 3 (by decide) | exact congrFun (f34 29 (by decide)) 3
    try have u34_3 : σ34 29 7 = σ28 29 7 := by first | exact o34 7 (by decide) | exact congrFun (f34 29 (by decide)) 7
    try have u34_4 : σ34 29 21 = σ28 29 21 := by first | exact o34 21 (by decide) | exact congrFun (f34 29 (by decide)) 21
    try have u34_5 : σ34 29 22 = σ28 29 22 := by first | exact o34 22 (by decide) | exact congrFun (f34 29 (by decide)) 22
    try have u34_6 : σ34 29 27 = σ28 29 27 := by first | exact o34 27 (by decide) | exact congrFun (f34 29 (by decide)) 27
    try have u34_7 : σ34 29 30 = σ28 29 30 := by first | exact o34 30 (by decide) | exact congrFun (f34 29 (by decide)) 30
    try have u34_8 : σ34 29 31 = σ28 29 31 := by first | exact o34 31 (by decide) | exact congrFun (f34 29 (by decide)) 31
    try have u34_9 : σ34 29 36 = σ28 29 36 := by first | exact o34 36 (by decide) | exact congrFun (f34 29 (by decide)) 36
    try have u34_10 : σ34 29 37 = σ28 29 37 := by first | exact o34 37 (by decide) | exact congrFun (f34 29 (by decide)) 37
    try have u34_11 : σ34 29 38 = σ28 29 38 := by first | exact o34 38 (by decide) | exact congrFun (f34 29 (by decide)) 38
    try have u34_12 : σ34 29 39 = σ28 29 39 := by first | exact o34 39 (by decide) | exact congrFun (f34 29 (by decide)) 39
    try have u34_13 : σ34 29 40 = σ28 29 40 := by first | exact o34 40 (by decide) | exact congrFun (f34 29 (by decide)) 40
    try have u34_14 : σ34 29 41 = σ28 29 41 := by first | exact o34 41 (by decide) | exact congrFun (f34 29 (by decide)) 41
    try have u34_15 : σ34 29 43 = σ28 29 43 := by first | exact o34 43 (by decide) | exact congrFun (f34 29 (by decide)) 43
    refine pe_iconst d_M_draw_37 ?_
    refine pe_istore_n d_M_draw_38 ?_
    exact J39 (_, _) ⟨hB, (fun b hb => (f34 b (by simp at hb ⊢; try omega)).trans ((f28 b (by simp at hb ⊢; try omega)).trans ((f22 b (by simp at hb ⊢; try omega)).trans ((f18 b (by simp at hb ⊢; try omega)).trans ((f6 b (by simp at hb ⊢; try omega)).trans ((f2 b (by simp at hb ⊢; try omega)).trans (rfl))))))), (fun j hj => (o34 j (by simp at hj ⊢; try omega)).trans ((o28 j (by simp at hj ⊢; try omega)).trans ((o22 j (by simp at hj ⊢; try omega)).trans ((o18 j (by simp at hj ⊢; try omega)).trans ((o6 j (by simp at hj ⊢; try omega)).trans ((o2 j (by simp at hj ⊢; try omega)).trans (rfl))))))), fun j h1 h2 => by (try dsimp only at h2); omega, by (try dsimp only); rw [((f34 40 (by decide)).trans ((f28 40 (by decide)).trans ((f22 40 (by decide)).trans ((f18 40 (by decide)).trans (rfl))))), ((f34 41 (by decide)).trans ((f28 41 (by decide)).trans ((f22 41 (by decide)).trans ((f18 41 (by decide)).trans (rfl)))))]; rw [w21, w22] at x6; exact x6.2, by (try dsimp only); omega, by (try dsimp only); omega⟩
