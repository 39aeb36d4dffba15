theorem t_M_cutOut {σ : pe_H} (hB : pe_B σ) (hM : pe_MEs σ) : pe_M m_M_cutOut [pe_r 29] σ (pe_qv (fun σ' => pe_B σ' ∧ (∀ b, b ∉ [29, 30, 31, 32, 33, 34, 35, 36] → σ' b = σ b) ∧ (∀ j, j ∉ ([1, 2, 3, 5, 7] : List Int) → σ' 29 j = σ 29 j) ∧ pe_MEs σ')) := by
  refine pe_in0 (lv := [some (pe_r 29), none, none, none]) ?_
  have hB0 := hB
  have hM0 := hM
  obtain ⟨hl, A30, A31, A36, ⟨hcu, hbg⟩, hma, hcl, hcg, hch, N30, N31, N36⟩ := hM
  have J74 : ∀ x : Int × Int × Int × pe_H, (pe_B x.2.2.2 ∧ (∀ b, b ∉ [29, 31] → x.2.2.2 b = σ b) ∧ (∀ j, j ∉ ([5] : List Int) → x.2.2.2 29 j = σ 29 j) ∧ (x.2.2.2 29 5 = x.2.1 - x.1) ∧ (0 ≤ x.1 ∧ x.1 < x.2.1 ∧ x.2.1 ≤ σ 29 1) ∧ (∀ j, 0 ≤ x.2.2.2 31 j ∧ x.2.2.2 31 j ≤ 65535) ∧ (∀ j, 0 ≤ j → j < x.2.2.1 → x.2.2.2 31 j ≠ 0) ∧ (0 ≤ x.2.2.1 ∧ x.2.2.1 ≤ x.2.1 - x.1)) → pe_G m_M_cutOut 74 [some (pe_r 29), some (pe_i x.1), some (pe_i x.2.1), some (pe_i x.2.2.1)] [] x.2.2.2 (pe_qv (fun σ' => pe_B σ' ∧ (∀ b, b ∉ [29, 30, 31, 32, 33, 34, 35, 36] → σ' b = σ b) ∧ (∀ j, j ∉ ([1, 2, 3, 5, 7] : List Int) → σ' 29 j = σ 29 j) ∧ pe_MEs σ')) := by
    refine pe_loop (fun x : Int × Int × Int × pe_H => (300 - x.2.2.1).toNat) _ _ ?_
    intro x hI ih
    obtain ⟨f, t, k, τ⟩ := x
    dsimp only at hI ⊢
    obtain ⟨hB, hfr, hX⟩ := hI
    obtain ⟨hor, h5, hft, A31, M31, hX⟩ := hX
    have w1 : τ 29 1 = σ 29 1 := hor 1 (by decide)
    have w2 : τ 29 2 = σ 29 2 := hor 2 (by decide)
    have w3 : τ 29 3 = σ 29 3 := hor 3 (by decide)
    have w7 : τ 29 7 = σ 29 7 := hor 7 (by decide)
    have w30 : τ 30 = σ 30 := hfr 30 (by decide)
    have hBt := hB
    refine pe_iload_n d_M_cutOut_74 rfl ?_
    refine pe_aload_n d_M_cutOut_75 rfl ?_
    refine pe_geti f_M_132 d_M_cutOut_76 rfl rfl 5 rfl ?_
    refine pe_icmp_ge (t := 102) d_M_cutOut_79 (by first | exact hB _ _ | exact hB0 _ _ | exact hBt _ _ | exact ⟨by omega, by omega⟩) (by first | exact hB _ _ | exact hB0 _ _ | exact hBt _ _ | exact ⟨by omega, by omega⟩) (fun h79 => ?_) (fun h79 => ?_)
    · skip
      refine pe_aload_n d_M_cutOut_102 rfl ?_
      refine pe_iload_n d_M_cutOut_103 rfl ?_
      refine pe_iload_n d_M_cutOut_104 rfl ?_
      refine pe_v2v d_M_cutOut_105 c_M_138 i_M_takeAway s_M_takeAway rfl rfl (t_M_takeAway hB ⟨by omega, by rw [w30]; exact A30, A31, by rw [hfr 36 (by decide)]; exact A36, ⟨by omega, by rw [w30, w1, w2]; exact hbg⟩, by omega, by omega, by omega, by rw [w7, hfr 32 (by decide), hfr 33 (by decide), hfr 34 (by decide), hfr 35 (by decide), w1]; exact hch, ⟨by rw [w30, w1]; exact N30, fun j a b => M31 j a (by omega), by rw [w7, hfr 34 (by decide), hfr 36 (by decide)]; exact N36⟩⟩ (by omega)) (fun σ105 hz105 => ?_)
      obtain ⟨hB, f105, o105, x105⟩ := hz105
      try have u105_0 : σ105 29 1 = τ 29 1 := by first | exact o105 1 (by decide) | exact congrFun (f105 29 (by decide)) 1
      try have u105_1 : σ105 29 2 = τ 29 2 := by first | exact o105 2 (by decide) | exact congrFun (f105 29 (by decide)) 2
      try have u105_2 : σ105 29 3 = τ 29 3 := by first | exact o105 3 (by decide) | exact congrFun (f105 29 (by decide)) 3
      try have u105_3 : σ105 29 5 = τ 29 5 := by first | exact o105 5 (by decide) | exact congrFun (f105 29 (by decide)) 5
      try have u105_4 : σ105 29 7 = τ 29 7 := by first | exact o105 7 (by decide) | exact congrFun (f105 29 (by decide)) 7
      refine pe_rv d_M_cutOut_108 ?_
      exact ⟨hB, (fun b hb => (f105 b (by simp at hb ⊢; try omega)).trans (hfr b (by simp at hb ⊢; try omega))), (fun j hj => (o105 j (by simp at hj ⊢; try omega)).trans (hor j (by simp at hj ⊢; try omega))), x105⟩
    · skip
      refine pe_aload_n d_M_cutOut_82 rfl ?_
      refine pe_getr f_M_17 d_M_cutOut_83 rfl rfl ?_
      refine pe_iload_n d_M_cutOut_86 rfl ?_
      refine pe_aload_n d_M_cutOut_87 rfl ?_
      refine pe_getr f_M_7 d_M_cutOut_88 rfl rfl ?_
      refine pe_iload_n d_M_cutOut_91 rfl ?_
      refine pe_iload_n d_M_cutOut_92 rfl ?_
      refine pe_iadd d_M_cutOut_93 ?_
      refine pe_iald d_M_cutOut_94 rfl (by omega) (by omega) ?_
      have at1 := A30 (f + k)
      rw [← w30] at at1
      refine pe_iastT d_M_cutOut_95 rfl (by omega) (by omega) hB (by first | exact hB _ _ | exact hB0 _ _ | exact hBt _ _ | exact ⟨by omega, by omega⟩) (fun σ95 hB e95 o95 f95 => ?_)
      try have u95_0 : σ95 29 1 = τ 29 1 := by first | exact o95 1 (by decide) | exact congrFun (f95 29 (by decide)) 1
      try have u95_1 : σ95 29 2 = τ 29 2 := by first | exact o95 2 (by decide) | exact congrFun (f95 29 (by decide)) 2
      try have u95_2 : σ95 29 3 = τ 29 3 := by first | exact o95 3 (by decide) | exact congrFun (f95 29 (by decide)) 3
      try have u95_3 : σ95 29 5 = τ 29 5 := by first | exact o95 5 (by decide) | exact congrFun (f95 29 (by decide)) 5
      try have u95_4 : σ95 29 7 = τ 29 7 := by first | exact o95 7 (by decide) | exact congrFun (f95 29 (by decide)) 7
      have A31 : (∀ j, 0 ≤ σ95 31 j ∧ σ95 31 j ≤ 65535) := pe_all_up e95 o95 A31 at1
      have M31 : ∀ j, 0 ≤ j → j < k + 1 → σ95 31 j ≠ 0 := fun j a b => by
        by_cases e : j = k
        · rw [e, e95, w30]; exact N30 (f + k) (by omega) (by omega)
        · rw [o95 j e]; exact M31 j a (by omega)
      refine pe_iinc d_M_cutOut_96 rfl ?_
      refine pe_goto (t := 74) d_M_cutOut_99 ?_
      exact ih (_, _, _, _) ⟨hB, (fun b hb => (f95 b (by simp at hb ⊢; try omega)).trans (hfr b (by simp at hb ⊢; try omega))), (fun j hj => (congrFun (f95 29 (by decide)) j).trans (hor j (by simp at hj ⊢; try omega))), by (try dsimp only); omega, by (try dsimp only); omega, A31, M31, by (try dsimp only); omega⟩ (by (try dsimp only); omega)
  refine pe_aload_n d_M_cutOut_0 rfl ?_
  refine pe_geti f_M_13 d_M_cutOut_1 rfl rfl 3 rfl ?_
  refine pe_if_lt (t := 18) d_M_cutOut_4 (by first | exact hB _ _ | exact hB0 _ _ | exact hBt _ _ | exact ⟨by omega, by omega⟩) (fun h4 => ?_) (fun h4 => ?_)
  · skip
    refine pe_rv d_M_cutOut_18 ?_
    exact ⟨hB, (fun b hb => rfl), (fun j hj => rfl), hM0⟩
  · skip
    refine pe_aload_n d_M_cutOut_7 rfl ?_
    refine pe_geti f_M_13 d_M_cutOut_8 rfl rfl 3 rfl ?_
    refine pe_aload_n d_M_cutOut_11 rfl ?_
    refine pe_geti f_M_117 d_M_cutOut_12 rfl rfl 2 rfl ?_
    refine pe_icmp_ne (t := 19) d_M_cutOut_15 (by first | exact hB _ _ | exact hB0 _ _ | exact hBt _ _ | exact ⟨by omega, by omega⟩) (by first | exact hB _ _ | exact hB0 _ _ | exact hBt _ _ | exact ⟨by omega, by omega⟩) (fun h15 => ?_) (fun h15 => ?_)
    · skip
      refine pe_aload_n d_M_cutOut_19 rfl ?_
      refine pe_geti f_M_13 d_M_cutOut_20 rfl rfl 3 rfl ?_
      refine pe_aload_n d_M_cutOut_23 rfl ?_
      refine pe_geti f_M_117 d_M_cutOut_24 rfl rfl 2 rfl ?_
      refine pe_icmp_ge (t := 37) d_M_cutOut_27 (by first | exact hB _ _ | exact hB0 _ _ | exact hBt _ _ | exact ⟨by omega, by omega⟩) (by first | exact hB _ _ | exact hB0 _ _ | exact hBt _ _ | exact ⟨by omega, by omega⟩) (fun h27 => ?_) (fun h27 => ?_)
      · skip
        refine pe_aload_n d_M_cutOut_37 rfl ?_
        refine pe_geti f_M_117 d_M_cutOut_38 rfl rfl 2 rfl ?_
        refine pe_istore_n d_M_cutOut_41 ?_
        refine pe_aload_n d_M_cutOut_42 rfl ?_
        refine pe_geti f_M_13 d_M_cutOut_43 rfl rfl 3 rfl ?_
        refine pe_aload_n d_M_cutOut_46 rfl ?_
        refine pe_geti f_M_117 d_M_cutOut_47 rfl rfl 2 rfl ?_
        refine pe_icmp_ge (t := 60) d_M_cutOut_50 (by first | exact hB _ _ | exact hB0 _ _ | exact hBt _ _ | exact ⟨by omega, by omega⟩) (by first | exact hB _ _ | exact hB0 _ _ | exact hBt _ _ | exact ⟨by omega, by omega⟩) (fun h50 => ?_) (fun h50 => ?_)
        · skip
          refine pe_aload_n d_M_cutOut_60 rfl ?_
          refine pe_geti f_M_13 d_M_cutOut_61 rfl rfl 3 rfl ?_
          refine pe_istore_n d_M_cutOut_64 ?_
          refine pe_aload_n d_M_cutOut_65 rfl ?_
          refine pe_iload_n d_M_cutOut_66 rfl ?_
          refine pe_iload_n d_M_cutOut_67 rfl ?_
          refine pe_isub d_M_cutOut_68 ?_
          refine pe_putiT f_M_132 g_11_5 d_M_cutOut_69 rfl rfl 5 rfl hB (by first | exact hB _ _ | exact hB0 _ _ | exact hBt _ _ | exact ⟨by omega, by omega⟩) (fun σ69 hB e69 o69 f69 => ?_)
          try have u69_0 : σ69 29 1 = σ 29 1 := by first | exact o69 1 (by decide) | exact congrFun (f69 29 (by decide)) 1
          try have u69_1 : σ69 29 2 = σ 29 2 := by first | exact o69 2 (by decide) | exact congrFun (f69 29 (by decide)) 2
          try have u69_2 : σ69 29 3 = σ 29 3 := by first | exact o69 3 (by decide) | exact congrFun (f69 29 (by decide)) 3
          try have u69_3 : σ69 29 5 = σ 29 5 := by first | exact o69 5 (by decide) | exact congrFun (f69 29 (by decide)) 5
          try have u69_4 : σ69 29 7 = σ 29 7 := by first | exact o69 7 (by decide) | exact congrFun (f69 29 (by decide)) 7
          refine pe_iconst d_M_cutOut_72 ?_
          refine pe_istore_n d_M_cutOut_73 ?_
          exact J74 (_, _, _, _) ⟨hB, (fun b hb => (f69 b (by simp at hb ⊢; try omega)).trans (rfl)), (fun j hj => (o69 j (by simp at hj ⊢; try omega)).trans (rfl)), by (try dsimp only); omega, by (try dsimp only); omega, by (try dsimp only); rw [show σ69 31 = σ 31 from ((f69 31 (by decide)).trans (rfl))]; exact A31, fun j a b => by (try dsimp only at *); omega, by (try dsimp only); omega⟩
        · skip
          refine pe_aload_n d_M_cutOut_53 rfl ?_
          refine pe_geti f_M_117 d_M_cutOut_54 rfl rfl 2 rfl ?_
          refine pe_goto (t := 64) d_M_cutOut_57 ?_
          refine pe_istore_n d_M_cutOut_64 ?_
          refine pe_aload_n d_M_cutOut_65 rfl ?_
          refine pe_iload_n d_M_cutOut_66 rfl ?_
          refine pe_iload_n d_M_cutOut_67 rfl ?_
          refine pe_isub d_M_cutOut_68 ?_
          refine pe_putiT f_M_132 g_11_5 d_M_cutOut_69 rfl rfl 5 rfl hB (by first | exact hB _ _ | exact hB0 _ _ | exact hBt _ _ | exact ⟨by omega, by omega⟩) (fun σ69 hB e69 o69 f69 => ?_)
          try have u69_0 : σ69 29 1 = σ 29 1 := by first | exact o69 1 (by decide) | exact congrFun (f69 29 (by decide)) 1
          try have u69_1 : σ69 29 2 = σ 29 2 := by first | exact o69 2 (by decide) | exact congrFun (f69 29 (by decide)) 2
          try have u69_2 : σ69 29 3 = σ 29 3 := by first | exact o69 3 (by decide) | exact congrFun (f69 29 (by decide)) 3
          try have u69_3 : σ69 29 5 = σ 29 5 := by first | exact o69 5 (by decide) | exact congrFun (f69 29 (by decide)) 5
          try have u69_4 : σ69 29 7 = σ 29 7 := by first | exact o69 7 (by decide) | exact congrFun (f69 29 (by decide)) 7
          refine pe_iconst d_M_cutOut_72 ?_
          refine pe_istore_n d_M_cutOut_73 ?_
          exact J74 (_, _, _, _) ⟨hB, (fun b hb => (f69 b (by simp at hb ⊢; try omega)).trans (rfl)), (fun j hj => (o69 j (by simp at hj ⊢; try omega)).trans (rfl)), by (try dsimp only); omega, by (try dsimp only); omega, by (try dsimp only); rw [show σ69 31 = σ 31 from ((f69 31 (by decide)).trans (rfl))]; exact A31, fun j a b => by (try dsimp only at *); omega, by (try dsimp only); omega⟩
      · skip
        refine pe_aload_n d_M_cutOut_30 rfl ?_
        refine pe_geti f_M_13 d_M_cutOut_31 rfl rfl 3 rfl ?_
        refine pe_goto (t := 41) d_M_cutOut_34 ?_
        refine pe_istore_n d_M_cutOut_41 ?_
        refine pe_aload_n d_M_cutOut_42 rfl ?_
        refine pe_geti f_M_13 d_M_cutOut_43 rfl rfl 3 rfl ?_
        refine pe_aload_n d_M_cutOut_46 rfl ?_
        refine pe_geti f_M_117 d_M_cutOut_47 rfl rfl 2 rfl ?_
        refine pe_icmp_ge (t := 60) d_M_cutOut_50 (by first | exact hB _ _ | exact hB0 _ _ | exact hBt _ _ | exact ⟨by omega, by omega⟩) (by first | exact hB _ _ | exact hB0 _ _ | exact hBt _ _ | exact ⟨by omega, by omega⟩) (fun h50 => ?_) (fun h50 => ?_)
        · skip
          refine pe_aload_n d_M_cutOut_60 rfl ?_
          refine pe_geti f_M_13 d_M_cutOut_61 rfl rfl 3 rfl ?_
          refine pe_istore_n d_M_cutOut_64 ?_
          refine pe_aload_n d_M_cutOut_65 rfl ?_
          refine pe_iload_n d_M_cutOut_66 rfl ?_
          refine pe_iload_n d_M_cutOut_67 rfl ?_
          refine pe_isub d_M_cutOut_68 ?_
          refine pe_putiT f_M_132 g_11_5 d_M_cutOut_69 rfl rfl 5 rfl hB (by first | exact hB _ _ | exact hB0 _ _ | exact hBt _ _ | exact ⟨by omega, by omega⟩) (fun σ69 hB e69 o69 f69 => ?_)
          try have u69_0 : σ69 29 1 = σ 29 1 := by first | exact o69 1 (by decide) | exact congrFun (f69 29 (by decide)) 1
          try have u69_1 : σ69 29 2 = σ 29 2 := by first | exact o69 2 (by decide) | exact congrFun (f69 29 (by decide)) 2
          try have u69_2 : σ69 29 3 = σ 29 3 := by first | exact o69 3 (by decide) | exact congrFun (f69 29 (by decide)) 3
          try have u69_3 : σ69 29 5 = σ 29 5 := by first | exact o69 5 (by decide) | exact congrFun (f69 29 (by decide)) 5
          try have u69_4 : σ69 29 7 = σ 29 7 := by first | exact o69 7 (by decide) | exact congrFun (f69 29 (by decide)) 7
          refine pe_iconst d_M_cutOut_72 ?_
          refine pe_istore_n d_M_cutOut_73 ?_
          exact J74 (_, _, _, _) ⟨hB, (fun b hb => (f69 b (by simp at hb ⊢; try omega)).trans (rfl)), (fun j hj => (o69 j (by simp at hj ⊢; try omega)).trans (rfl)), by (try dsimp only); omega, by (try dsimp only); omega, by (try dsimp only); rw [show σ69 31 = σ 31 from ((f69 31 (by decide)).trans (rfl))]; exact A31, fun j a b => by (try dsimp only at *); omega, by (try dsimp only); omega⟩
        · skip
          refine pe_aload_n d_M_cutOut_53 rfl ?_
          refine pe_geti f_M_117 d_M_cutOut_54 rfl rfl 2 rfl ?_
          refine pe_goto (t := 64) d_M_cutOut_57 ?_
          refine pe_istore_n d_M_cutOut_64 ?_
          refine pe_aload_n d_M_cutOut_65 rfl ?_
          refine pe_iload_n d_M_cutOut_66 rfl ?_
          refine pe_iload_n d_M_cutOut_67 rfl ?_
          refine pe_isub d_M_cutOut_68 ?_
          refine pe_putiT f_M_132 g_11_5 d_M_cutOut_69 rfl rfl 5 rfl hB (by first | exact hB _ _ | exact hB0 _ _ | exact hBt _ _ | exact ⟨by omega, by omega⟩) (fun σ69 hB e69 o69 f69 => ?_)
          try have u69_0 : σ69 29 1 = σ 29 1 := by first | exact o69 1 (by decide) | exact congrFun (f69 29 (by decide)) 1
          try have u69_1 : σ69 29 2 = σ 29 2 := by first | exact o69 2 (by decide) | exact congrFun (f69 29 (by decide)) 2
          try have u69_2 : σ69 29 3 = σ 29 3 := by first | exact o69 3 (by decide) | exact congrFun (f69 29 (by decide)) 3
          try have u69_3 : σ69 29 5 = σ 29 5 := by first | exact o69 5 (by decide) | exact congrFun (f69 29 (by decide)) 5
          try have u69_4 : σ69 29 7 = σ 29 7 := by first | exact o69 7 (by decide) | exact congrFun (f69 29 (by decide)) 7
          refine pe_iconst d_M_cutOut_72 ?_
          refine pe_istore_n d_M_cutOut_73 ?_
          exact J74 (_, _, _, _) ⟨hB, (fun b hb => (f69 b (by simp at hb ⊢; try omega)).trans (rfl)), (fun j hj => (o69 j (by simp at hj ⊢; try omega)).trans (rfl)), by (try dsimp only); omega, by (try dsimp only); omega, by (try dsimp only); rw [show σ69 31 = σ 31 from ((f69 31 (by decide)).trans (rfl))]; exact A31, fun j a b => by (try dsimp only at *); omega, by (try dsimp only); omega⟩
    · skip
      refine pe_rv d_M_cutOut_18 ?_
      exact ⟨hB, (fun b hb => rfl), (fun j hj => rfl), hM0⟩
theorem t_M_undo {σ : pe_H} (hB : pe_B σ) (hM : pe_MEs σ) : pe_M m_M_undo [pe_r 29] σ (pe_qv (fun σ' => pe_B σ' ∧ (∀ b, b ∉ [29, 30, 31, 32, 33, 34, 35, 36] → σ' b = σ b) ∧ (∀ j, j ∉ ([1, 2, 3, 5, 7] : List Int) → σ' 29 j = σ 29 j) ∧ pe_MEs σ')) := by
  refine pe_in0 (lv := [some (pe_r 29), none, none]) ?_
  have hB0 := hB
  have hM0 := hM
  obtain ⟨hl, A30, A31, A36, ⟨hcu, hbg⟩, hma, hcl, hcg, hch, N30, N31, N36⟩ := hM
  have J58 : ∀ x : Int × Int × pe_H, (pe_B x.2.2 ∧ (∀ b, b ∉ [29, 30] → x.2.2 b = σ b) ∧ (∀ j, j ∉ ([1, 7] : List Int) → x.2.2 29 j = σ 29 j) ∧ (x.1 = σ 32 (σ 29 7 - 1)) ∧ (x.2.2 29 7 = σ 29 7 - 1 ∧ x.2.2 29 1 = σ 29 1 - σ 33 (σ 29 7 - 1) + σ 34 (σ 29 7 - 1)) ∧ (∀ j, 0 ≤ x.2.2 30 j ∧ x.2.2 30 j ≤ 65535) ∧ (∀ j, 0 ≤ j → j < x.2.2 29 1 → (j < x.1 + x.2.1 ∨ x.1 + σ 34 (σ 29 7 - 1) ≤ j) → x.2.2 30 j ≠ 0) ∧ (0 ≤ x.2.1 ∧ x.2.1 ≤ σ 34 (σ 29 7 - 1)) ∧ σ 29 7 ≠ 0) → pe_G m_M_undo 58 [some (pe_r 29), some (pe_i x.1), some (pe_i x.2.1)] [] x.2.2 (pe_qv (fun σ' => pe_B σ' ∧ (∀ b, b ∉ [29, 30, 31, 32, 33, 34, 35, 36] → σ' b = σ b) ∧ (∀ j, j ∉ ([1, 2, 3, 5, 7] : List Int) → σ' 29 j = σ 29 j) ∧ pe_MEs σ')) := by
    refine pe_loop (fun x : Int × Int × pe_H => (300 - x.2.1).toNat) _ _ ?_
    intro x hI ih
    obtain ⟨p, k, τ⟩ := x
    dsimp only at hI ⊢
    obtain ⟨hB, hfr, hX⟩ := hI
    obtain ⟨hor, hpp, h7, A30, P30, hX, hn0⟩ := hX
    obtain ⟨hl1, hl2, hl3, hl4, hl5⟩ := pe_mc_pop (by omega) hch
    have hl6 := pe_mc_len hl5
    have w2 : τ 29 2 = σ 29 2 := hor 2 (by decide)
    have w3 : τ 29 3 = σ 29 3 := hor 3 (by decide)
    have w5 : τ 29 5 = σ 29 5 := hor 5 (by decide)
    have wg : τ 34 (τ 29 7) = σ 34 (σ 29 7 - 1) := by rw [h7.1, hfr 34 (by decide)]
    have wu : τ 35 (τ 29 7) = σ 35 (σ 29 7 - 1) := by rw [h7.1, hfr 35 (by decide)]
    have w36 : τ 36 = σ 36 := hfr 36 (by decide)
    have hBt := hB
    refine pe_iload_n d_M_undo_58 rfl ?_
    refine pe_aload_n d_M_undo_59 rfl ?_
    refine pe_getr f_M_29 d_M_undo_60 rfl rfl ?_
    refine pe_aload_n d_M_undo_63 rfl ?_
    refine pe_geti f_M_111 d_M_undo_64 rfl rfl 7 rfl ?_
    refine pe_iald d_M_undo_67 rfl (by omega) (by omega) ?_
    refine pe_icmp_ge (t := 100) d_M_undo_68 (by first | exact hB _ _ | exact hB0 _ _ | exact hBt _ _ | exact ⟨by omega, by omega⟩) (by first | exact hB _ _ | exact hB0 _ _ | exact hBt _ _ | exact ⟨by omega, by omega⟩) (fun h68 => ?_) (fun h68 => ?_)
    · skip
      refine pe_aload_n d_M_undo_100 rfl ?_
      refine pe_iconst d_M_undo_101 ?_
      refine pe_putiT f_M_13 g_11_3 d_M_undo_102 rfl rfl 3 rfl hB (by first | exact hB _ _ | exact hB0 _ _ | exact hBt _ _ | exact ⟨by omega, by omega⟩) (fun σ102 hB e102 o102 f102 => ?_)
      try have u102_0 : σ102 29 1 = τ 29 1 := by first | exact o102 1 (by decide) | exact congrFun (f102 29 (by decide)) 1
      try have u102_1 : σ102 29 2 = τ 29 2 := by first | exact o102 2 (by decide) | exact congrFun (f102 29 (by decide)) 2
      try have u102_2 : σ102 29 3 = τ 29 3 := by first | exact o102 3 (by decide) | exact congrFun (f102 29 (by decide)) 3
      try have u102_3 : σ102 29 5 = τ 29 5 := by first | exact o102 5 (by decide) | exact congrFun (f102 29 (by decide)) 5
      try have u102_4 : σ102 29 7 = τ 29 7 := by first | exact o102 7 (by decide) | exact congrFun (f102 29 (by decide)) 7
      refine pe_aload_n d_M_undo_105 rfl ?_
      refine pe_aload_n d_M_undo_106 rfl ?_
      refine pe_getr f_M_32 d_M_undo_107 rfl rfl ?_
      refine pe_aload_n d_M_undo_110 rfl ?_
      refine pe_geti f_M_111 d_M_undo_111 rfl rfl 7 rfl ?_
      refine pe_iald d_M_undo_114 rfl (by omega) (by omega) ?_
      have wu2 : σ102 35 (σ102 29 7) = σ 35 (σ 29 7 - 1) := by rw [show σ102 29 7 = τ 29 7 by omega, show σ102 35 = τ 35 from ((f102 35 (by decide)).trans (rfl))]; exact wu
      refine pe_v1v d_M_undo_115 c_M_128 i_M_settle s_M_settle rfl rfl (t_M_settle hB (by omega) (by omega)) (fun σ115 hz115 => ?_)
      obtain ⟨hB, f115, o115, x115⟩ := hz115
      try have u115_0 : σ115 29 1 = σ102 29 1 := by first | exact o115 1 (by decide) | exact congrFun (f115 29 (by decide)) 1
      try have u115_1 : σ115 29 2 = σ102 29 2 := by first | exact o115 2 (by decide) | exact congrFun (f115 29 (by decide)) 2
      try have u115_2 : σ115 29 3 = σ102 29 3 := by first | exact o115 3 (by decide) | exact congrFun (f115 29 (by decide)) 3
      try have u115_3 : σ115 29 5 = σ102 29 5 := by first | exact o115 5 (by decide) | exact congrFun (f115 29 (by decide)) 5
      try have u115_4 : σ115 29 7 = σ102 29 7 := by first | exact o115 7 (by decide) | exact congrFun (f115 29 (by decide)) 7
      refine pe_rv d_M_undo_118 ?_
      exact ⟨hB, (fun b hb => (f115 b (by simp at hb ⊢; try omega)).trans ((f102 b (by simp at hb ⊢; try omega)).trans (hfr b (by simp at hb ⊢; try omega)))), (fun j hj => (o115 j (by simp at hj ⊢; try omega)).trans ((o102 j (by simp at hj ⊢; try omega)).trans (hor j (by simp at hj ⊢; try omega)))), ⟨by omega, by rw [show σ115 30 = τ 30 from ((f115 30 (by decide)).trans ((f102 30 (by decide)).trans (rfl)))]; exact A30, by rw [show σ115 31 = τ 31 from ((f115 31 (by decide)).trans ((f102 31 (by decide)).trans (rfl))), hfr 31 (by decide)]; exact A31, by rw [show σ115 36 = τ 36 from ((f115 36 (by decide)).trans ((f102 36 (by decide)).trans (rfl))), w36]; exact A36, ⟨by omega, by rw [show σ115 30 = σ102 30 from ((f115 30 (by decide)).trans (rfl)), show σ115 29 1 = σ102 29 1 by omega]; exact x115.2⟩, by omega, by omega, by omega, by rw [show (σ115 29 7).toNat = (σ 29 7 - 1).toNat by omega, show σ115 32 = τ 32 from ((f115 32 (by decide)).trans ((f102 32 (by decide)).trans (rfl))), hfr 32 (by decide), show σ115 33 = τ 33 from ((f115 33 (by decide)).trans ((f102 33 (by decide)).trans (rfl))), hfr 33 (by decide), show σ115 34 = τ 34 from ((f115 34 (by decide)).trans ((f102 34 (by decide)).trans (rfl))), hfr 34 (by decide), show σ115 35 = τ 35 from ((f115 35 (by decide)).trans ((f102 35 (by decide)).trans (rfl))), hfr 35 (by decide), show σ115 29 1 = σ 29 1 - σ 33 (σ 29 7 - 1) + σ 34 (σ 29 7 - 1) by omega]; exact hl5, ⟨fun j a b => by rw [show σ115 30 = τ 30 from ((f115 30 (by decide)).trans ((f102 30 (by decide)).trans (rfl)))]; exact P30 j a (by omega) (by omega), by rw [show σ115 31 = τ 31 from ((f115 31 (by decide)).trans ((f102 31 (by decide)).trans (rfl))), hfr 31 (by decide), show σ115 29 5 = σ 29 5 by omega]; exact N31, fun n j a b c d e => by (rw [show σ115 36 = τ 36 from ((f115 36 (by decide)).trans ((f102 36 (by decide)).trans (rfl))), w36]); (rw [show σ115 34 = τ 34 from ((f115 34 (by decide)).trans ((f102 34 (by decide)).trans (rfl))), hfr 34 (by decide)] at d); exact N36 n j a (by omega) c d e⟩⟩⟩
    · skip
      refine pe_aload_n d_M_undo_71 rfl ?_
      refine pe_getr f_M_7 d_M_undo_72 rfl rfl ?_
      refine pe_iload_n d_M_undo_75 rfl ?_
      refine pe_iload_n d_M_undo_76 rfl ?_
      refine pe_iadd d_M_undo_77 ?_
      refine pe_aload_n d_M_undo_78 rfl ?_
      refine pe_getr f_M_35 d_M_undo_79 rfl rfl ?_
      refine pe_sipush d_M_undo_82 ?_
      refine pe_aload_n d_M_undo_85 rfl ?_
      refine pe_geti f_M_111 d_M_undo_86 rfl rfl 7 rfl ?_
      refine pe_imul d_M_undo_89 ?_
      refine pe_iload_n d_M_undo_90 rfl ?_
      refine pe_iadd d_M_undo_91 ?_
      refine pe_iald d_M_undo_92 rfl (by omega) (by omega) ?_
      have at1 := A36 (200 * τ 29 7 + k)
      rw [← w36] at at1
      refine pe_iastT d_M_undo_93 rfl (by omega) (by omega) hB (by first | exact hB _ _ | exact hB0 _ _ | exact hBt _ _ | exact ⟨by omega, by omega⟩) (fun σ93 hB e93 o93 f93 => ?_)
      try have u93_0 : σ93 29 1 = τ 29 1 := by first | exact o93 1 (by decide) | exact congrFun (f93 29 (by decide)) 1
      try have u93_1 : σ93 29 2 = τ 29 2 := by first | exact o93 2 (by decide) | exact congrFun (f93 29 (by decide)) 2
      try have u93_2 : σ93 29 3 = τ 29 3 := by first | exact o93 3 (by decide) | exact congrFun (f93 29 (by decide)) 3
      try have u93_3 : σ93 29 5 = τ 29 5 := by first | exact o93 5 (by decide) | exact congrFun (f93 29 (by decide)) 5
      try have u93_4 : σ93 29 7 = τ 29 7 := by first | exact o93 7 (by decide) | exact congrFun (f93 29 (by decide)) 7
      have A30 : (∀ j, 0 ≤ σ93 30 j ∧ σ93 30 j ≤ 65535) := pe_all_up e93 o93 A30 at1
      have P30 : ∀ j, 0 ≤ j → j < σ93 29 1 → (j < p + (k + 1) ∨ p + σ 34 (σ 29 7 - 1) ≤ j) → σ93 30 j ≠ 0 := fun j a b c => by
        by_cases e : j = p + k
        · rw [e, e93, w36]; exact N36 (τ 29 7) k (by omega) (by omega) (by omega) (by rw [h7.1]; omega) (by omega)
        · rw [o93 j e]; exact P30 j a (by omega) (by omega)
      refine pe_iinc d_M_undo_94 rfl ?_
      refine pe_goto (t := 58) d_M_undo_97 ?_
      exact ih (_, _, _) ⟨hB, (fun b hb => (f93 b (by simp at hb ⊢; try omega)).trans (hfr b (by simp at hb ⊢; try omega))), (fun j hj => (congrFun (f93 29 (by decide)) j).trans (hor j (by simp at hj ⊢; try omega))), hpp, by (try dsimp only); omega, A30, P30, by (try dsimp only); omega, hn0⟩ (by (try dsimp only); omega)
  refine pe_aload_n d_M_undo_0 rfl ?_
  refine pe_geti f_M_111 d_M_undo_1 rfl rfl 7 rfl ?_
  refine pe_if_ne (t := 8) d_M_undo_4 (by first | exact hB _ _ | exact hB0 _ _ | exact hBt _ _ | exact ⟨by omega, by omega⟩) (fun h4 => ?_) (fun h4 => ?_)
  · skip
    obtain ⟨hl1, hl2, hl3, hl4, hl5⟩ := pe_mc_pop (by omega) hch
    have hl6 := pe_mc_len hl5
    refine pe_aload_n d_M_undo_8 rfl ?_
    refine pe_dup d_M_undo_9 ?_
    refine pe_geti f_M_111 d_M_undo_10 rfl rfl 7 rfl ?_
    refine pe_iconst d_M_undo_13 ?_
    refine pe_isub d_M_undo_14 ?_
    refine pe_putiT f_M_111 g_11_7 d_M_undo_15 rfl rfl 7 rfl hB (by first | exact hB _ _ | exact hB0 _ _ | exact hBt _ _ | exact ⟨by omega, by omega⟩) (fun σ15 hB e15 o15 f15 => ?_)
    try have u15_0 : σ15 29 1 = σ 29 1 := by first | exact o15 1 (by decide) | exact congrFun (f15 29 (by decide)) 1
    try have u15_1 : σ15 29 2 = σ 29 2 := by first | exact o15 2 (by decide) | exact congrFun (f15 29 (by decide)) 2
    try have u15_2 : σ15 29 3 = σ 29 3 := by first | exact o15 3 (by decide) | exact congrFun (f15 29 (by decide)) 3
    try have u15_3 : σ15 29 5 = σ 29 5 := by first | exact o15 5 (by decide) | exact congrFun (f15 29 (by decide)) 5
    try have u15_4 : σ15 29 7 = σ 29 7 := by first | exact o15 7 (by decide) | exact congrFun (f15 29 (by decide)) 7
    have ea : σ15 32 (σ15 29 7) = σ 32 (σ 29 7 - 1) ∧ σ15 33 (σ15 29 7) = σ 33 (σ 29 7 - 1) ∧ σ15 34 (σ15 29 7) = σ 34 (σ 29 7 - 1) ∧ σ15 35 (σ15 29 7) = σ 35 (σ 29 7 - 1) := by rw [show σ15 29 7 = σ 29 7 - 1 by omega, f15 32 (by decide), f15 33 (by decide), f15 34 (by decide), f15 35 (by decide)]; exact ⟨rfl, rfl, rfl, rfl⟩
    refine pe_aload_n d_M_undo_18 rfl ?_
    refine pe_getr f_M_23 d_M_undo_19 rfl rfl ?_
    refine pe_aload_n d_M_undo_22 rfl ?_
    refine pe_geti f_M_111 d_M_undo_23 rfl rfl 7 rfl ?_
    refine pe_iald d_M_undo_26 rfl (by omega) (by omega) ?_
    refine pe_istore_n d_M_undo_27 ?_
    refine pe_aload_n d_M_undo_28 rfl ?_
    refine pe_iload_n d_M_undo_29 rfl ?_
    refine pe_aload_n d_M_undo_30 rfl ?_
    refine pe_getr f_M_26 d_M_undo_31 rfl rfl ?_
    refine pe_aload_n d_M_undo_34 rfl ?_
    refine pe_geti f_M_111 d_M_undo_35 rfl rfl 7 rfl ?_
    refine pe_iald d_M_undo_38 rfl (by omega) (by omega) ?_
    refine pe_v2v d_M_undo_39 c_M_135 i_M_close s_M_close rfl rfl (t_M_close hB (by omega) (by omega) (by rw [((f15 30 (by decide)).trans (rfl))]; exact A30) (by rw [((f15 30 (by decide)).trans (rfl)), show σ15 29 1 = σ 29 1 by omega]; exact N30)) (fun σ39 hz39 => ?_)
    obtain ⟨hB, f39, o39, x39⟩ := hz39
    try have u39_0 : σ39 29 1 = σ15 29 1 := by first | exact o39 1 (by decide) | exact congrFun (f39 29 (by decide)) 1
    try have u39_1 : σ39 29 2 = σ15 29 2 := by first | exact o39 2 (by decide) | exact congrFun (f39 29 (by decide)) 2
    try have u39_2 : σ39 29 3 = σ15 29 3 := by first | exact o39 3 (by decide) | exact congrFun (f39 29 (by decide)) 3
    try have u39_3 : σ39 29 5 = σ15 29 5 := by first | exact o39 5 (by decide) | exact congrFun (f39 29 (by decide)) 5
    try have u39_4 : σ39 29 7 = σ15 29 7 := by first | exact o39 7 (by decide) | exact congrFun (f39 29 (by decide)) 7
    have eb : σ39 34 (σ39 29 7) = σ 34 (σ 29 7 - 1) ∧ σ39 35 (σ39 29 7) = σ 35 (σ 29 7 - 1) := by rw [show σ39 29 7 = σ15 29 7 by omega, f39 34 (by decide), f39 35 (by decide)]; exact ⟨ea.2.2.1, ea.2.2.2⟩
    refine pe_aload_n d_M_undo_42 rfl ?_
    refine pe_iload_n d_M_undo_43 rfl ?_
    refine pe_aload_n d_M_undo_44 rfl ?_
    refine pe_getr f_M_29 d_M_undo_45 rfl rfl ?_
    refine pe_aload_n d_M_undo_48 rfl ?_
    refine pe_geti f_M_111 d_M_undo_49 rfl rfl 7 rfl ?_
    refine pe_iald d_M_undo_52 rfl (by omega) (by omega) ?_
    refine pe_v2v d_M_undo_53 c_M_124 i_M_open s_M_open rfl rfl (t_M_open hB (by omega) (by omega) (by omega) x39.2.1 (fun j a b => x39.2.2 j a (by omega))) (fun σ53 hz53 => ?_)
    obtain ⟨hB, f53, o53, x53⟩ := hz53
    try have u53_0 : σ53 29 1 = σ39 29 1 := by first | exact o53 1 (by decide) | exact congrFun (f53 29 (by decide)) 1
    try have u53_1 : σ53 29 2 = σ39 29 2 := by first | exact o53 2 (by decide) | exact congrFun (f53 29 (by decide)) 2
    try have u53_2 : σ53 29 3 = σ39 29 3 := by first | exact o53 3 (by decide) | exact congrFun (f53 29 (by decide)) 3
    try have u53_3 : σ53 29 5 = σ39 29 5 := by first | exact o53 5 (by decide) | exact congrFun (f53 29 (by decide)) 5
    try have u53_4 : σ53 29 7 = σ39 29 7 := by first | exact o53 7 (by decide) | exact congrFun (f53 29 (by decide)) 7
    refine pe_iconst d_M_undo_56 ?_
    refine pe_istore_n d_M_undo_57 ?_
    exact J58 (_, _, _) ⟨hB, (fun b hb => (f53 b (by simp at hb ⊢; try omega)).trans ((f39 b (by simp at hb ⊢; try omega)).trans ((f15 b (by simp at hb ⊢; try omega)).trans (rfl)))), (fun j hj => (o53 j (by simp at hj ⊢; try omega)).trans ((o39 j (by simp at hj ⊢; try omega)).trans ((o15 j (by simp at hj ⊢; try omega)).trans (rfl)))), ea.1, by (try dsimp only); omega, x53.2.1, fun j a b c => x53.2.2 j a (by (try dsimp only at *); omega) (by (try dsimp only at *); omega), by (try dsimp only); omega, h4⟩
  · skip
    refine pe_rv d_M_undo_7 ?_
    exact ⟨hB, (fun b hb => rfl), (fun j hj => rfl), hM0⟩
