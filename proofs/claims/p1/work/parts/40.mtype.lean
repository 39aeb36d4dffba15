theorem t_M_inSequence {σ : pe_H} {k a : Int} (hB : pe_B σ) (hM : pe_MEs σ) (hK : pe_KI (σ 29)) (hco : 1 ≤ σ 29 21 ∧ σ 29 21 ≤ 24) (hk : 0 ≤ k ∧ k ≤ 255) (ha : pe_R a) : pe_M m_M_inSequence [pe_r 29, pe_i k, pe_i a] σ (pe_qv (fun σ' => pe_B σ' ∧ (∀ b, b ∉ [29, 30, 31, 32, 33, 34, 35, 36, 37, 38, 39] → σ' b = σ b) ∧ (∀ j, j ∉ ([1, 2, 3, 5, 6, 7, 13, 14, 15, 16, 17, 18, 19, 20, 26, 41] : List Int) → σ' 29 j = σ 29 j) ∧ (pe_MEs σ' ∧ pe_KI (σ' 29)))) := by
  refine pe_in0 (lv := [some (pe_r 29), some (pe_i k), some (pe_i a)]) ?_
  have hB0 := hB
  have hM0 := hM
  obtain ⟨hl, A30, A31, A36, ⟨hcu, hbg⟩, hma, hcl, hcg, hch, N30, N31, N36⟩ := hM
  have hK0 := hK
  obtain ⟨k1, k2, k3, k4, k5, k6, k7⟩ := hK
  refine pe_iload_n d_M_inSequence_0 rfl ?_
  refine pe_bipush d_M_inSequence_1 ?_
  refine pe_icmp_lt (t := 55) d_M_inSequence_3 (by first | exact hB _ _ | exact hB0 _ _ | exact hBt _ _ | exact ⟨by omega, by omega⟩) (by first | exact hB _ _ | exact hB0 _ _ | exact hBt _ _ | exact ⟨by omega, by omega⟩) (fun h3 => ?_) (fun h3 => ?_)
  · skip
    refine pe_iload_n d_M_inSequence_55 rfl ?_
    refine pe_bipush d_M_inSequence_56 ?_
    refine pe_icmp_lt (t := 80) d_M_inSequence_58 (by first | exact hB _ _ | exact hB0 _ _ | exact hBt _ _ | exact ⟨by omega, by omega⟩) (by first | exact hB _ _ | exact hB0 _ _ | exact hBt _ _ | exact ⟨by omega, by omega⟩) (fun h58 => ?_) (fun h58 => ?_)
    · skip
      refine pe_aload_n d_M_inSequence_80 rfl ?_
      refine pe_iconst d_M_inSequence_81 ?_
      refine pe_putiT f_M_181 g_11_13 d_M_inSequence_82 rfl rfl 13 rfl hB (by first | exact hB _ _ | exact hB0 _ _ | exact hBt _ _ | exact ⟨by omega, by omega⟩) (fun σ82 hB e82 o82 f82 => ?_)
      try have u82_0 : σ82 29 1 = σ 29 1 := by first | exact o82 1 (by decide) | exact congrFun (f82 29 (by decide)) 1
      try have u82_1 : σ82 29 2 = σ 29 2 := by first | exact o82 2 (by decide) | exact congrFun (f82 29 (by decide)) 2
      try have u82_2 : σ82 29 3 = σ 29 3 := by first | exact o82 3 (by decide) | exact congrFun (f82 29 (by decide)) 3
      try have u82_3 : σ82 29 5 = σ 29 5 := by first | exact o82 5 (by decide) | exact congrFun (f82 29 (by decide)) 5
      try have u82_4 : σ82 29 7 = σ 29 7 := by first | exact o82 7 (by decide) | exact congrFun (f82 29 (by decide)) 7
      try have u82_5 : σ82 29 21 = σ 29 21 := by first | exact o82 21 (by decide) | exact congrFun (f82 29 (by decide)) 21
      try have u82_6 : σ82 29 26 = σ 29 26 := by first | exact o82 26 (by decide) | exact congrFun (f82 29 (by decide)) 26
      try have u82_7 : σ82 29 14 = σ 29 14 := by first | exact o82 14 (by decide) | exact congrFun (f82 29 (by decide)) 14
      try have u82_8 : σ82 29 15 = σ 29 15 := by first | exact o82 15 (by decide) | exact congrFun (f82 29 (by decide)) 15
      try have u82_9 : σ82 29 16 = σ 29 16 := by first | exact o82 16 (by decide) | exact congrFun (f82 29 (by decide)) 16
      try have u82_10 : σ82 29 17 = σ 29 17 := by first | exact o82 17 (by decide) | exact congrFun (f82 29 (by decide)) 17
      try have u82_11 : σ82 29 18 = σ 29 18 := by first | exact o82 18 (by decide) | exact congrFun (f82 29 (by decide)) 18
      refine pe_aload_n d_M_inSequence_85 rfl ?_
      refine pe_iload_n d_M_inSequence_86 rfl ?_
      refine pe_iload_n d_M_inSequence_87 rfl ?_
      refine pe_v2v d_M_inSequence_88 c_M_200 i_M_plain s_M_plain rfl rfl (t_M_plain hB (pe_ME_g hM0 (by omega) (by omega) (by omega) ⟨by omega, by rw [show σ82 29 2 = σ 29 2 by omega]; exact hbg⟩ (by omega) ((f82 30 (by decide)).trans (rfl)) ((f82 31 (by decide)).trans (rfl)) ((f82 36 (by decide)).trans (rfl)) ((f82 32 (by decide)).trans (rfl)) ((f82 33 (by decide)).trans (rfl)) ((f82 34 (by decide)).trans (rfl)) ((f82 35 (by decide)).trans (rfl))) ⟨by omega, by omega, by omega, by omega, by omega, by omega, by omega⟩ (by omega) (by first | exact hB _ _ | exact hB0 _ _ | exact hBt _ _ | exact ⟨by omega, by omega⟩)) (fun σ88 hz88 => ?_)
      obtain ⟨hB, f88, o88, x88⟩ := hz88
      try have u88_0 : σ88 29 1 = σ82 29 1 := by first | exact o88 1 (by decide) | exact congrFun (f88 29 (by decide)) 1
      try have u88_1 : σ88 29 2 = σ82 29 2 := by first | exact o88 2 (by decide) | exact congrFun (f88 29 (by decide)) 2
      try have u88_2 : σ88 29 3 = σ82 29 3 := by first | exact o88 3 (by decide) | exact congrFun (f88 29 (by decide)) 3
      try have u88_3 : σ88 29 5 = σ82 29 5 := by first | exact o88 5 (by decide) | exact congrFun (f88 29 (by decide)) 5
      try have u88_4 : σ88 29 7 = σ82 29 7 := by first | exact o88 7 (by decide) | exact congrFun (f88 29 (by decide)) 7
      try have u88_5 : σ88 29 21 = σ82 29 21 := by first | exact o88 21 (by decide) | exact congrFun (f88 29 (by decide)) 21
      try have u88_6 : σ88 29 26 = σ82 29 26 := by first | exact o88 26 (by decide) | exact congrFun (f88 29 (by decide)) 26
      try have u88_7 : σ88 29 14 = σ82 29 14 := by first | exact o88 14 (by decide) | exact congrFun (f88 29 (by decide)) 14
      try have u88_8 : σ88 29 15 = σ82 29 15 := by first | exact o88 15 (by decide) | exact congrFun (f88 29 (by decide)) 15
      try have u88_9 : σ88 29 16 = σ82 29 16 := by first | exact o88 16 (by decide) | exact congrFun (f88 29 (by decide)) 16
      try have u88_10 : σ88 29 17 = σ82 29 17 := by first | exact o88 17 (by decide) | exact congrFun (f88 29 (by decide)) 17
      try have u88_11 : σ88 29 18 = σ82 29 18 := by first | exact o88 18 (by decide) | exact congrFun (f88 29 (by decide)) 18
      have xx := x88
      refine pe_rv d_M_inSequence_91 ?_
      first | exact ⟨hB, (fun b hb => (f88 b (by simp at hb ⊢; try omega)).trans ((f82 b (by simp at hb ⊢; try omega)).trans (rfl))), (fun j hj => (o88 j (by simp at hj ⊢; try omega)).trans ((o82 j (by simp at hj ⊢; try omega)).trans (rfl))), xx⟩ | exact ⟨hB, (fun b hb => (f88 b (by simp at hb ⊢; try omega)).trans ((f82 b (by simp at hb ⊢; try omega)).trans (rfl))), (fun j hj => (o88 j (by simp at hj ⊢; try omega)).trans ((o82 j (by simp at hj ⊢; try omega)).trans (rfl))), pe_ME_g hM0 (by omega) (by omega) (by omega) ⟨by omega, by rw [show σ88 29 2 = σ 29 2 by omega]; exact hbg⟩ (by omega) ((f88 30 (by decide)).trans ((f82 30 (by decide)).trans (rfl))) ((f88 31 (by decide)).trans ((f82 31 (by decide)).trans (rfl))) ((f88 36 (by decide)).trans ((f82 36 (by decide)).trans (rfl))) ((f88 32 (by decide)).trans ((f82 32 (by decide)).trans (rfl))) ((f88 33 (by decide)).trans ((f82 33 (by decide)).trans (rfl))) ((f88 34 (by decide)).trans ((f82 34 (by decide)).trans (rfl))) ((f88 35 (by decide)).trans ((f82 35 (by decide)).trans (rfl))), ⟨by omega, by omega, by omega, by omega, by omega, by omega, by omega⟩⟩
    · skip
      refine pe_iload_n d_M_inSequence_61 rfl ?_
      refine pe_bipush d_M_inSequence_62 ?_
      refine pe_icmp_gt (t := 80) d_M_inSequence_64 (by first | exact hB _ _ | exact hB0 _ _ | exact hBt _ _ | exact ⟨by omega, by omega⟩) (by first | exact hB _ _ | exact hB0 _ _ | exact hBt _ _ | exact ⟨by omega, by omega⟩) (fun h64 => ?_) (fun h64 => ?_)
      · skip
        refine pe_aload_n d_M_inSequence_80 rfl ?_
        refine pe_iconst d_M_inSequence_81 ?_
        refine pe_putiT f_M_181 g_11_13 d_M_inSequence_82 rfl rfl 13 rfl hB (by first | exact hB _ _ | exact hB0 _ _ | exact hBt _ _ | exact ⟨by omega, by omega⟩) (fun σ82 hB e82 o82 f82 => ?_)
        try have u82_0 : σ82 29 1 = σ 29 1 := by first | exact o82 1 (by decide) | exact congrFun (f82 29 (by decide)) 1
        try have u82_1 : σ82 29 2 = σ 29 2 := by first | exact o82 2 (by decide) | exact congrFun (f82 29 (by decide)) 2
        try have u82_2 : σ82 29 3 = σ 29 3 := by first | exact o82 3 (by decide) | exact congrFun (f82 29 (by decide)) 3
        try have u82_3 : σ82 29 5 = σ 29 5 := by first | exact o82 5 (by decide) | exact congrFun (f82 29 (by decide)) 5
        try have u82_4 : σ82 29 7 = σ 29 7 := by first | exact o82 7 (by decide) | exact congrFun (f82 29 (by decide)) 7
        try have u82_5 : σ82 29 21 = σ 29 21 := by first | exact o82 21 (by decide) | exact congrFun (f82 29 (by decide)) 21
        try have u82_6 : σ82 29 26 = σ 29 26 := by first | exact o82 26 (by decide) | exact congrFun (f82 29 (by decide)) 26
        try have u82_7 : σ82 29 14 = σ 29 14 := by first | exact o82 14 (by decide) | exact congrFun (f82 29 (by decide)) 14
        try have u82_8 : σ82 29 15 = σ 29 15 := by first | exact o82 15 (by decide) | exact congrFun (f82 29 (by decide)) 15
        try have u82_9 : σ82 29 16 = σ 29 16 := by first | exact o82 16 (by decide) | exact congrFun (f82 29 (by decide)) 16
        try have u82_10 : σ82 29 17 = σ 29 17 := by first | exact o82 17 (by decide) | exact congrFun (f82 29 (by decide)) 17
        try have u82_11 : σ82 29 18 = σ 29 18 := by first | exact o82 18 (by decide) | exact congrFun (f82 29 (by decide)) 18
        refine pe_aload_n d_M_inSequence_85 rfl ?_
        refine pe_iload_n d_M_inSequence_86 rfl ?_
        refine pe_iload_n d_M_inSequence_87 rfl ?_
        refine pe_v2v d_M_inSequence_88 c_M_200 i_M_plain s_M_plain rfl rfl (t_M_plain hB (pe_ME_g hM0 (by omega) (by omega) (by omega) ⟨by omega, by rw [show σ82 29 2 = σ 29 2 by omega]; exact hbg⟩ (by omega) ((f82 30 (by decide)).trans (rfl)) ((f82 31 (by decide)).trans (rfl)) ((f82 36 (by decide)).trans (rfl)) ((f82 32 (by decide)).trans (rfl)) ((f82 33 (by decide)).trans (rfl)) ((f82 34 (by decide)).trans (rfl)) ((f82 35 (by decide)).trans (rfl))) ⟨by omega, by omega, by omega, by omega, by omega, by omega, by omega⟩ (by omega) (by first | exact hB _ _ | exact hB0 _ _ | exact hBt _ _ | exact ⟨by omega, by omega⟩)) (fun σ88 hz88 => ?_)
        obtain ⟨hB, f88, o88, x88⟩ := hz88
        try have u88_0 : σ88 29 1 = σ82 29 1 := by first | exact o88 1 (by decide) | exact congrFun (f88 29 (by decide)) 1
        try have u88_1 : σ88 29 2 = σ82 29 2 := by first | exact o88 2 (by decide) | exact congrFun (f88 29 (by decide)) 2
        try have u88_2 : σ88 29 3 = σ82 29 3 := by first | exact o88 3 (by decide) | exact congrFun (f88 29 (by decide)) 3
        try have u88_3 : σ88 29 5 = σ82 29 5 := by first | exact o88 5 (by decide) | exact congrFun (f88 29 (by decide)) 5
        try have u88_4 : σ88 29 7 = σ82 29 7 := by first | exact o88 7 (by decide) | exact congrFun (f88 29 (by decide)) 7
        try have u88_5 : σ88 29 21 = σ82 29 21 := by first | exact o88 21 (by decide) | exact congrFun (f88 29 (by decide)) 21
        try have u88_6 : σ88 29 26 = σ82 29 26 := by first | exact o88 26 (by decide) | exact congrFun (f88 29 (by decide)) 26
        try have u88_7 : σ88 29 14 = σ82 29 14 := by first | exact o88 14 (by decide) | exact congrFun (f88 29 (by decide)) 14
        try have u88_8 : σ88 29 15 = σ82 29 15 := by first | exact o88 15 (by decide) | exact congrFun (f88 29 (by decide)) 15
        try have u88_9 : σ88 29 16 = σ82 29 16 := by first | exact o88 16 (by decide) | exact congrFun (f88 29 (by decide)) 16
        try have u88_10 : σ88 29 17 = σ82 29 17 := by first | exact o88 17 (by decide) | exact congrFun (f88 29 (by decide)) 17
        try have u88_11 : σ88 29 18 = σ82 29 18 := by first | exact o88 18 (by decide) | exact congrFun (f88 29 (by decide)) 18
        have xx := x88
        refine pe_rv d_M_inSequence_91 ?_
        first | exact ⟨hB, (fun b hb => (f88 b (by simp at hb ⊢; try omega)).trans ((f82 b (by simp at hb ⊢; try omega)).trans (rfl))), (fun j hj => (o88 j (by simp at hj ⊢; try omega)).trans ((o82 j (by simp at hj ⊢; try omega)).trans (rfl))), xx⟩ | exact ⟨hB, (fun b hb => (f88 b (by simp at hb ⊢; try omega)).trans ((f82 b (by simp at hb ⊢; try omega)).trans (rfl))), (fun j hj => (o88 j (by simp at hj ⊢; try omega)).trans ((o82 j (by simp at hj ⊢; try omega)).trans (rfl))), pe_ME_g hM0 (by omega) (by omega) (by omega) ⟨by omega, by rw [show σ88 29 2 = σ 29 2 by omega]; exact hbg⟩ (by omega) ((f88 30 (by decide)).trans ((f82 30 (by decide)).trans (rfl))) ((f88 31 (by decide)).trans ((f82 31 (by decide)).trans (rfl))) ((f88 36 (by decide)).trans ((f82 36 (by decide)).trans (rfl))) ((f88 32 (by decide)).trans ((f82 32 (by decide)).trans (rfl))) ((f88 33 (by decide)).trans ((f82 33 (by decide)).trans (rfl))) ((f88 34 (by decide)).trans ((f82 34 (by decide)).trans (rfl))) ((f88 35 (by decide)).trans ((f82 35 (by decide)).trans (rfl))), ⟨by omega, by omega, by omega, by omega, by omega, by omega, by omega⟩⟩
      · skip
        refine pe_aload_n d_M_inSequence_67 rfl ?_
        refine pe_iconst d_M_inSequence_68 ?_
        refine pe_putiT f_M_181 g_11_13 d_M_inSequence_69 rfl rfl 13 rfl hB (by first | exact hB _ _ | exact hB0 _ _ | exact hBt _ _ | exact ⟨by omega, by omega⟩) (fun σ69 hB e69 o69 f69 => ?_)
        try have u69_0 : σ69 29 1 = σ 29 1 := by first | exact o69 1 (by decide) | exact congrFun (f69 29 (by decide)) 1
        try have u69_1 : σ69 29 2 = σ 29 2 := by first | exact o69 2 (by decide) | exact congrFun (f69 29 (by decide)) 2
        try have u69_2 : σ69 29 3 = σ 29 3 := by first | exact o69 3 (by decide) | exact congrFun (f69 29 (by decide)) 3
        try have u69_3 : σ69 29 5 = σ 29 5 := by first | exact o69 5 (by decide) | exact congrFun (f69 29 (by decide)) 5
        try have u69_4 : σ69 29 7 = σ 29 7 := by first | exact o69 7 (by decide) | exact congrFun (f69 29 (by decide)) 7
        try have u69_5 : σ69 29 21 = σ 29 21 := by first | exact o69 21 (by decide) | exact congrFun (f69 29 (by decide)) 21
        try have u69_6 : σ69 29 26 = σ 29 26 := by first | exact o69 26 (by decide) | exact congrFun (f69 29 (by decide)) 26
        try have u69_7 : σ69 29 14 = σ 29 14 := by first | exact o69 14 (by decide) | exact congrFun (f69 29 (by decide)) 14
        try have u69_8 : σ69 29 15 = σ 29 15 := by first | exact o69 15 (by decide) | exact congrFun (f69 29 (by decide)) 15
        try have u69_9 : σ69 29 16 = σ 29 16 := by first | exact o69 16 (by decide) | exact congrFun (f69 29 (by decide)) 16
        try have u69_10 : σ69 29 17 = σ 29 17 := by first | exact o69 17 (by decide) | exact congrFun (f69 29 (by decide)) 17
        try have u69_11 : σ69 29 18 = σ 29 18 := by first | exact o69 18 (by decide) | exact congrFun (f69 29 (by decide)) 18
        refine pe_aload_n d_M_inSequence_72 rfl ?_
        refine pe_iload_n d_M_inSequence_73 rfl ?_
        refine pe_v1v d_M_inSequence_74 c_M_203 i_M_finish s_M_finish rfl rfl (t_M_finish hB (pe_ME_g hM0 (by omega) (by omega) (by omega) ⟨by omega, by rw [show σ69 29 2 = σ 29 2 by omega]; exact hbg⟩ (by omega) ((f69 30 (by decide)).trans (rfl)) ((f69 31 (by decide)).trans (rfl)) ((f69 36 (by decide)).trans (rfl)) ((f69 32 (by decide)).trans (rfl)) ((f69 33 (by decide)).trans (rfl)) ((f69 34 (by decide)).trans (rfl)) ((f69 35 (by decide)).trans (rfl))) ⟨by omega, by omega, by omega, by omega, by omega, by omega, by omega⟩ (by omega) (by omega)) (fun σ74 hz74 => ?_)
        obtain ⟨hB, f74, o74, x74⟩ := hz74
        try have u74_0 : σ74 29 1 = σ69 29 1 := by first | exact o74 1 (by decide) | exact congrFun (f74 29 (by decide)) 1
        try have u74_1 : σ74 29 2 = σ69 29 2 := by first | exact o74 2 (by decide) | exact congrFun (f74 29 (by decide)) 2
        try have u74_2 : σ74 29 3 = σ69 29 3 := by first | exact o74 3 (by decide) | exact congrFun (f74 29 (by decide)) 3
        try have u74_3 : σ74 29 5 = σ69 29 5 := by first | exact o74 5 (by decide) | exact congrFun (f74 29 (by decide)) 5
        try have u74_4 : σ74 29 7 = σ69 29 7 := by first | exact o74 7 (by decide) | exact congrFun (f74 29 (by decide)) 7
        try have u74_5 : σ74 29 21 = σ69 29 21 := by first | exact o74 21 (by decide) | exact congrFun (f74 29 (by decide)) 21
        try have u74_6 : σ74 29 26 = σ69 29 26 := by first | exact o74 26 (by decide) | exact congrFun (f74 29 (by decide)) 26
        try have u74_7 : σ74 29 14 = σ69 29 14 := by first | exact o74 14 (by decide) | exact congrFun (f74 29 (by decide)) 14
        try have u74_8 : σ74 29 15 = σ69 29 15 := by first | exact o74 15 (by decide) | exact congrFun (f74 29 (by decide)) 15
        try have u74_9 : σ74 29 16 = σ69 29 16 := by first | exact o74 16 (by decide) | exact congrFun (f74 29 (by decide)) 16
        try have u74_10 : σ74 29 17 = σ69 29 17 := by first | exact o74 17 (by decide) | exact congrFun (f74 29 (by decide)) 17
        try have u74_11 : σ74 29 18 = σ69 29 18 := by first | exact o74 18 (by decide) | exact congrFun (f74 29 (by decide)) 18
        have xx := x74
        refine pe_goto (t := 91) d_M_inSequence_77 ?_
        refine pe_rv d_M_inSequence_91 ?_
        first | exact ⟨hB, (fun b hb => (f74 b (by simp at hb ⊢; try omega)).trans ((f69 b (by simp at hb ⊢; try omega)).trans (rfl))), (fun j hj => (o74 j (by simp at hj ⊢; try omega)).trans ((o69 j (by simp at hj ⊢; try omega)).trans (rfl))), xx⟩ | exact ⟨hB, (fun b hb => (f74 b (by simp at hb ⊢; try omega)).trans ((f69 b (by simp at hb ⊢; try omega)).trans (rfl))), (fun j hj => (o74 j (by simp at hj ⊢; try omega)).trans ((o69 j (by simp at hj ⊢; try omega)).trans (rfl))), pe_ME_g hM0 (by omega) (by omega) (by omega) ⟨by omega, by rw [show σ74 29 2 = σ 29 2 by omega]; exact hbg⟩ (by omega) ((f74 30 (by decide)).trans ((f69 30 (by decide)).trans (rfl))) ((f74 31 (by decide)).trans ((f69 31 (by decide)).trans (rfl))) ((f74 36 (by decide)).trans ((f69 36 (by decide)).trans (rfl))) ((f74 32 (by decide)).trans ((f69 32 (by decide)).trans (rfl))) ((f74 33 (by decide)).trans ((f69 33 (by decide)).trans (rfl))) ((f74 34 (by decide)).trans ((f69 34 (by decide)).trans (rfl))) ((f74 35 (by decide)).trans ((f69 35 (by decide)).trans (rfl))), ⟨by omega, by omega, by omega, by omega, by omega, by omega, by omega⟩⟩
  · skip
    refine pe_iload_n d_M_inSequence_6 rfl ?_
    refine pe_bipush d_M_inSequence_7 ?_
    refine pe_icmp_gt (t := 55) d_M_inSequence_9 (by first | exact hB _ _ | exact hB0 _ _ | exact hBt _ _ | exact ⟨by omega, by omega⟩) (by first | exact hB _ _ | exact hB0 _ _ | exact hBt _ _ | exact ⟨by omega, by omega⟩) (fun h9 => ?_) (fun h9 => ?_)
    · skip
      refine pe_iload_n d_M_inSequence_55 rfl ?_
      refine pe_bipush d_M_inSequence_56 ?_
      refine pe_icmp_lt (t := 80) d_M_inSequence_58 (by first | exact hB _ _ | exact hB0 _ _ | exact hBt _ _ | exact ⟨by omega, by omega⟩) (by first | exact hB _ _ | exact hB0 _ _ | exact hBt _ _ | exact ⟨by omega, by omega⟩) (fun h58 => ?_) (fun h58 => ?_)
      · skip
        refine pe_aload_n d_M_inSequence_80 rfl ?_
        refine pe_iconst d_M_inSequence_81 ?_
        refine pe_putiT f_M_181 g_11_13 d_M_inSequence_82 rfl rfl 13 rfl hB (by first | exact hB _ _ | exact hB0 _ _ | exact hBt _ _ | exact ⟨by omega, by omega⟩) (fun σ82 hB e82 o82 f82 => ?_)
        try have u82_0 : σ82 29 1 = σ 29 1 := by first | exact o82 1 (by decide) | exact congrFun (f82 29 (by decide)) 1
        try have u82_1 : σ82 29 2 = σ 29 2 := by first | exact o82 2 (by decide) | exact congrFun (f82 29 (by decide)) 2
        try have u82_2 : σ82 29 3 = σ 29 3 := by first | exact o82 3 (by decide) | exact congrFun (f82 29 (by decide)) 3
        try have u82_3 : σ82 29 5 = σ 29 5 := by first | exact o82 5 (by decide) | exact congrFun (f82 29 (by decide)) 5
        try have u82_4 : σ82 29 7 = σ 29 7 := by first | exact o82 7 (by decide) | exact congrFun (f82 29 (by decide)) 7
        try have u82_5 : σ82 29 21 = σ 29 21 := by first | exact o82 21 (by decide) | exact congrFun (f82 29 (by decide)) 21
        try have u82_6 : σ82 29 26 = σ 29 26 := by first | exact o82 26 (by decide) | exact congrFun (f82 29 (by decide)) 26
        try have u82_7 : σ82 29 14 = σ 29 14 := by first | exact o82 14 (by decide) | exact congrFun (f82 29 (by decide)) 14
        try have u82_8 : σ82 29 15 = σ 29 15 := by first | exact o82 15 (by decide) | exact congrFun (f82 29 (by decide)) 15
        try have u82_9 : σ82 29 16 = σ 29 16 := by first | exact o82 16 (by decide) | exact congrFun (f82 29 (by decide)) 16
        try have u82_10 : σ82 29 17 = σ 29 17 := by first | exact o82 17 (by decide) | exact congrFun (f82 29 (by decide)) 17
        try have u82_11 : σ82 29 18 = σ 29 18 := by first | exact o82 18 (by decide) | exact congrFun (f82 29 (by decide)) 18
        refine pe_aload_n d_M_inSequence_85 rfl ?_
        refine pe_iload_n d_M_inSequence_86 rfl ?_
        refine pe_iload_n d_M_inSequence_87 rfl ?_
        refine pe_v2v d_M_inSequence_88 c_M_200 i_M_plain s_M_plain rfl rfl (t_M_plain hB (pe_ME_g hM0 (by omega) (by omega) (by omega) ⟨by omega, by rw [show σ82 29 2 = σ 29 2 by omega]; exact hbg⟩ (by omega) ((f82 30 (by decide)).trans (rfl)) ((f82 31 (by decide)).trans (rfl)) ((f82 36 (by decide)).trans (rfl)) ((f82 32 (by decide)).trans (rfl)) ((f82 33 (by decide)).trans (rfl)) ((f82 34 (by decide)).trans (rfl)) ((f82 35 (by decide)).trans (rfl))) ⟨by omega, by omega, by omega, by omega, by omega, by omega, by omega⟩ (by omega) (by first | exact hB _ _ | exact hB0 _ _ | exact hBt _ _ | exact ⟨by omega, by omega⟩)) (fun σ88 hz88 => ?_)
        obtain ⟨hB, f88, o88, x88⟩ := hz88
        try have u88_0 : σ88 29 1 = σ82 29 1 := by first | exact o88 1 (by decide) | exact congrFun (f88 29 (by decide)) 1
        try have u88_1 : σ88 29 2 = σ82 29 2 := by first | exact o88 2 (by decide) | exact congrFun (f88 29 (by decide)) 2
        try have u88_2 : σ88 29 3 = σ82 29 3 := by first | exact o88 3 (by decide) | exact congrFun (f88 29 (by decide)) 3
        try have u88_3 : σ88 29 5 = σ82 29 5 := by first | exact o88 5 (by decide) | exact congrFun (f88 29 (by decide)) 5
        try have u88_4 : σ88 29 7 = σ82 29 7 := by first | exact o88 7 (by decide) | exact congrFun (f88 29 (by decide)) 7
        try have u88_5 : σ88 29 21 = σ82 29 21 := by first | exact o88 21 (by decide) | exact congrFun (f88 29 (by decide)) 21
        try have u88_6 : σ88 29 26 = σ82 29 26 := by first | exact o88 26 (by decide) | exact congrFun (f88 29 (by decide)) 26
        try have u88_7 : σ88 29 14 = σ82 29 14 := by first | exact o88 14 (by decide) | exact congrFun (f88 29 (by decide)) 14
        try have u88_8 : σ88 29 15 = σ82 29 15 := by first | exact o88 15 (by decide) | exact congrFun (f88 29 (by decide)) 15
        try have u88_9 : σ88 29 16 = σ82 29 16 := by first | exact o88 16 (by decide) | exact congrFun (f88 29 (by decide)) 16
        try have u88_10 : σ88 29 17 = σ82 29 17 := by first | exact o88 17 (by decide) | exact congrFun (f88 29 (by decide)) 17
        try have u88_11 : σ88 29 18 = σ82 29 18 := by first | exact o88 18 (by decide) | exact congrFun (f88 29 (by decide)) 18
        have xx := x88
        refine pe_rv d_M_inSequence_91 ?_
        first | exact ⟨hB, (fun b hb => (f88 b (by simp at hb ⊢; try omega)).trans ((f82 b (by simp at hb ⊢; try omega)).trans (rfl))), (fun j hj => (o88 j (by simp at hj ⊢; try omega)).trans ((o82 j (by simp at hj ⊢; try omega)).trans (rfl))), xx⟩ | exact ⟨hB, (fun b hb => (f88 b (by simp at hb ⊢; try omega)).trans ((f82 b (by simp at hb ⊢; try omega)).trans (rfl))), (fun j hj => (o88 j (by simp at hj ⊢; try omega)).trans ((o82 j (by simp at hj ⊢; try omega)).trans (rfl))), pe_ME_g hM0 (by omega) (by omega) (by omega) ⟨by omega, by rw [show σ88 29 2 = σ 29 2 by omega]; exact hbg⟩ (by omega) ((f88 30 (by decide)).trans ((f82 30 (by decide)).trans (rfl))) ((f88 31 (by decide)).trans ((f82 31 (by decide)).trans (rfl))) ((f88 36 (by decide)).trans ((f82 36 (by decide)).trans (rfl))) ((f88 32 (by decide)).trans ((f82 32 (by decide)).trans (rfl))) ((f88 33 (by decide)).trans ((f82 33 (by decide)).trans (rfl))) ((f88 34 (by decide)).trans ((f82 34 (by decide)).trans (rfl))) ((f88 35 (by decide)).trans ((f82 35 (by decide)).trans (rfl))), ⟨by omega, by omega, by omega, by omega, by omega, by omega, by omega⟩⟩
      · skip
        refine pe_iload_n d_M_inSequence_61 rfl ?_
        refine pe_bipush d_M_inSequence_62 ?_
        refine pe_icmp_gt (t := 80) d_M_inSequence_64 (by first | exact hB _ _ | exact hB0 _ _ | exact hBt _ _ | exact ⟨by omega, by omega⟩) (by first | exact hB _ _ | exact hB0 _ _ | exact hBt _ _ | exact ⟨by omega, by omega⟩) (fun h64 => ?_) (fun h64 => ?_)
        · skip
          refine pe_aload_n d_M_inSequence_80 rfl ?_
          refine pe_iconst d_M_inSequence_81 ?_
          refine pe_putiT f_M_181 g_11_13 d_M_inSequence_82 rfl rfl 13 rfl hB (by first | exact hB _ _ | exact hB0 _ _ | exact hBt _ _ | exact ⟨by omega, by omega⟩) (fun σ82 hB e82 o82 f82 => ?_)
          try have u82_0 : σ82 29 1 = σ 29 1 := by first | exact o82 1 (by decide) | exact congrFun (f82 29 (by decide)) 1
          try have u82_1 : σ82 29 2 = σ 29 2 := by first | exact o82 2 (by decide) | exact congrFun (f82 29 (by decide)) 2
          try have u82_2 : σ82 29 3 = σ 29 3 := by first | exact o82 3 (by decide) | exact congrFun (f82 29 (by decide)) 3
          try have u82_3 : σ82 29 5 = σ 29 5 := by first | exact o82 5 (by decide) | exact congrFun (f82 29 (by decide)) 5
          try have u82_4 : σ82 29 7 = σ 29 7 := by first | exact o82 7 (by decide) | exact congrFun (f82 29 (by decide)) 7
          try have u82_5 : σ82 29 21 = σ 29 21 := by first | exact o82 21 (by decide) | exact congrFun (f82 29 (by decide)) 21
          try have u82_6 : σ82 29 26 = σ 29 26 := by first | exact o82 26 (by decide) | exact congrFun (f82 29 (by decide)) 26
          try have u82_7 : σ82 29 14 = σ 29 14 := by first | exact o82 14 (by decide) | exact congrFun (f82 29 (by decide)) 14
          try have u82_8 : σ82 29 15 = σ 29 15 := by first | exact o82 15 (by decide) | exact congrFun (f82 29 (by decide)) 15
          try have u82_9 : σ82 29 16 = σ 29 16 := by first | exact o82 16 (by decide) | exact congrFun (f82 29 (by decide)) 16
          try have u82_10 : σ82 29 17 = σ 29 17 := by first | exact o82 17 (by decide) | exact congrFun (f82 29 (by decide)) 17
          try have u82_11 : σ82 29 18 = σ 29 18 := by first | exact o82 18 (by decide) | exact congrFun (f82 29 (by decide)) 18
          refine pe_aload_n d_M_inSequence_85 rfl ?_
          refine pe_iload_n d_M_inSequence_86 rfl ?_
          refine pe_iload_n d_M_inSequence_87 rfl ?_
          refine pe_v2v d_M_inSequence_88 c_M_200 i_M_plain s_M_plain rfl rfl (t_M_plain hB (pe_ME_g hM0 (by omega) (by omega) (by omega) ⟨by omega, by rw [show σ82 29 2 = σ 29 2 by omega]; exact hbg⟩ (by omega) ((f82 30 (by decide)).trans (rfl)) ((f82 31 (by decide)).trans (rfl)) ((f82 36 (by decide)).trans (rfl)) ((f82 32 (by decide)).trans (rfl)) ((f82 33 (by decide)).trans (rfl)) ((f82 34 (by decide)).trans (rfl)) ((f82 35 (by decide)).trans (rfl))) ⟨by omega, by omega, by omega, by omega, by omega, by omega, by omega⟩ (by omega) (by first | exact hB _ _ | exact hB0 _ _ | exact hBt _ _ | exact ⟨by omega, by omega⟩)) (fun σ88 hz88 => ?_)
          obtain ⟨hB, f88, o88, x88⟩ := hz88
          try have u88_0 : σ88 29 1 = σ82 29 1 := by first | exact o88 1 (by decide) | exact congrFun (f88 29 (by decide)) 1
          try have u88_1 : σ88 29 2 = σ82 29 2 := by first | exact o88 2 (by decide) | exact congrFun (f88 29 (by decide)) 2
          try have u88_2 : σ88 29 3 = σ82 29 3 := by first | exact o88 3 (by decide) | exact congrFun (f88 29 (by decide)) 3
          try have u88_3 : σ88 29 5 = σ82 29 5 := by first | exact o88 5 (by decide) | exact congrFun (f88 29 (by decide)) 5
          try have u88_4 : σ88 29 7 = σ82 29 7 := by first | exact o88 7 (by decide) | exact congrFun (f88 29 (by decide)) 7
          try have u88_5 : σ88 29 21 = σ82 29 21 := by first | exact o88 21 (by decide) | exact congrFun (f88 29 (by decide)) 21
          try have u88_6 : σ88 29 26 = σ82 29 26 := by first | exact o88 26 (by decide) | exact congrFun (f88 29 (by decide)) 26
          try have u88_7 : σ88 29 14 = σ82 29 14 := by first | exact o88 14 (by decide) | exact congrFun (f88 29 (by decide)) 14
          try have u88_8 : σ88 29 15 = σ82 29 15 := by first | exact o88 15 (by decide) | exact congrFun (f88 29 (by decide)) 15
          try have u88_9 : σ88 29 16 = σ82 29 16 := by first | exact o88 16 (by decide) | exact congrFun (f88 29 (by decide)) 16
          try have u88_10 : σ88 29 17 = σ82 29 17 := by first | exact o88 17 (by decide) | exact congrFun (f88 29 (by decide)) 17
          try have u88_11 : σ88 29 18 = σ82 29 18 := by first | exact o88 18 (by decide) | exact congrFun (f88 29 (by decide)) 18
          have xx := x88
          refine pe_rv d_M_inSequence_91 ?_
          first | exact ⟨hB, (fun b hb => (f88 b (by simp at hb ⊢; try omega)).trans ((f82 b (by simp at hb ⊢; try omega)).trans (rfl))), (fun j hj => (o88 j (by simp at hj ⊢; try omega)).trans ((o82 j (by simp at hj ⊢; try omega)).trans (rfl))), xx⟩ | exact ⟨hB, (fun b hb => (f88 b (by simp at hb ⊢; try omega)).trans ((f82 b (by simp at hb ⊢; try omega)).trans (rfl))), (fun j hj => (o88 j (by simp at hj ⊢; try omega)).trans ((o82 j (by simp at hj ⊢; try omega)).trans (rfl))), pe_ME_g hM0 (by omega) (by omega) (by omega) ⟨by omega, by rw [show σ88 29 2 = σ 29 2 by omega]; exact hbg⟩ (by omega) ((f88 30 (by decide)).trans ((f82 30 (by decide)).trans (rfl))) ((f88 31 (by decide)).trans ((f82 31 (by decide)).trans (rfl))) ((f88 36 (by decide)).trans ((f82 36 (by decide)).trans (rfl))) ((f88 32 (by decide)).trans ((f82 32 (by decide)).trans (rfl))) ((f88 33 (by decide)).trans ((f82 33 (by decide)).trans (rfl))) ((f88 34 (by decide)).trans ((f82 34 (by decide)).trans (rfl))) ((f88 35 (by decide)).trans ((f82 35 (by decide)).trans (rfl))), ⟨by omega, by omega, by omega, by omega, by omega, by omega, by omega⟩⟩
        · skip
          refine pe_aload_n d_M_inSequence_67 rfl ?_
          refine pe_iconst d_M_inSequence_68 ?_
          refine pe_putiT f_M_181 g_11_13 d_M_inSequence_69 rfl rfl 13 rfl hB (by first | exact hB _ _ | exact hB0 _ _ | exact hBt _ _ | exact ⟨by omega, by omega⟩) (fun σ69 hB e69 o69 f69 => ?_)
          try have u69_0 : σ69 29 1 = σ 29 1 := by first | exact o69 1 (by decide) | exact congrFun (f69 29 (by decide)) 1
          try have u69_1 : σ69 29 2 = σ 29 2 := by first | exact o69 2 (by decide) | exact congrFun (f69 29 (by decide)) 2
          try have u69_2 : σ69 29 3 = σ 29 3 := by first | exact o69 3 (by decide) | exact congrFun (f69 29 (by decide)) 3
          try have u69_3 : σ69 29 5 = σ 29 5 := by first | exact o69 5 (by decide) | exact congrFun (f69 29 (by decide)) 5
          try have u69_4 : σ69 29 7 = σ 29 7 := by first | exact o69 7 (by decide) | exact congrFun (f69 29 (by decide)) 7
          try have u69_5 : σ69 29 21 = σ 29 21 := by first | exact o69 21 (by decide) | exact congrFun (f69 29 (by decide)) 21
          try have u69_6 : σ69 29 26 = σ 29 26 := by first | exact o69 26 (by decide) | exact congrFun (f69 29 (by decide)) 26
          try have u69_7 : σ69 29 14 = σ 29 14 := by first | exact o69 14 (by decide) | exact congrFun (f69 29 (by decide)) 14
          try have u69_8 : σ69 29 15 = σ 29 15 := by first | exact o69 15 (by decide) | exact congrFun (f69 29 (by decide)) 15
          try have u69_9 : σ69 29 16 = σ 29 16 := by first | exact o69 16 (by decide) | exact congrFun (f69 29 (by decide)) 16
          try have u69_10 : σ69 29 17 = σ 29 17 := by first | exact o69 17 (by decide) | exact congrFun (f69 29 (by decide)) 17
          try have u69_11 : σ69 29 18 = σ 29 18 := by first | exact o69 18 (by decide) | exact congrFun (f69 29 (by decide)) 18
          refine pe_aload_n d_M_inSequence_72 rfl ?_
          refine pe_iload_n d_M_inSequence_73 rfl ?_
          refine pe_v1v d_M_inSequence_74 c_M_203 i_M_finish s_M_finish rfl rfl (t_M_finish hB (pe_ME_g hM0 (by omega) (by omega) (by omega) ⟨by omega, by rw [show σ69 29 2 = σ 29 2 by omega]; exact hbg⟩ (by omega) ((f69 30 (by decide)).trans (rfl)) ((f69 31 (by decide)).trans (rfl)) ((f69 36 (by decide)).trans (rfl)) ((f69 32 (by decide)).trans (rfl)) ((f69 33 (by decide)).trans (rfl)) ((f69 34 (by decide)).trans (rfl)) ((f69 35 (by decide)).trans (rfl))) ⟨by omega, by omega, by omega, by omega, by omega, by omega, by omega⟩ (by omega) (by omega)) (fun σ74 hz74 => ?_)
          obtain ⟨hB, f74, o74, x74⟩ := hz74
          try have u74_0 : σ74 29 1 = σ69 29 1 := by first | exact o74 1 (by decide) | exact congrFun (f74 29 (by decide)) 1
          try have u74_1 : σ74 29 2 = σ69 29 2 := by first | exact o74 2 (by decide) | exact congrFun (f74 29 (by decide)) 2
          try have u74_2 : σ74 29 3 = σ69 29 3 := by first | exact o74 3 (by decide) | exact congrFun (f74 29 (by decide)) 3
          try have u74_3 : σ74 29 5 = σ69 29 5 := by first | exact o74 5 (by decide) | exact congrFun (f74 29 (by decide)) 5
          try have u74_4 : σ74 29 7 = σ69 29 7 := by first | exact o74 7 (by decide) | exact congrFun (f74 29 (by decide)) 7
          try have u74_5 : σ74 29 21 = σ69 29 21 := by first | exact o74 21 (by decide) | exact congrFun (f74 29 (by decide)) 21
          try have u74_6 : σ74 29 26 = σ69 29 26 := by first | exact o74 26 (by decide) | exact congrFun (f74 29 (by decide)) 26
          try have u74_7 : σ74 29 14 = σ69 29 14 := by first | exact o74 14 (by decide) | exact congrFun (f74 29 (by decide)) 14
          try have u74_8 : σ74 29 15 = σ69 29 15 := by first | exact o74 15 (by decide) | exact congrFun (f74 29 (by decide)) 15
          try have u74_9 : σ74 29 16 = σ69 29 16 := by first | exact o74 16 (by decide) | exact congrFun (f74 29 (by decide)) 16
          try have u74_10 : σ74 29 17 = σ69 29 17 := by first | exact o74 17 (by decide) | exact congrFun (f74 29 (by decide)) 17
          try have u74_11 : σ74 29 18 = σ69 29 18 := by first | exact o74 18 (by decide) | exact congrFun (f74 29 (by decide)) 18
          have xx := x74
          refine pe_goto (t := 91) d_M_inSequence_77 ?_
          refine pe_rv d_M_inSequence_91 ?_
          first | exact ⟨hB, (fun b hb => (f74 b (by simp at hb ⊢; try omega)).trans ((f69 b (by simp at hb ⊢; try omega)).trans (rfl))), (fun j hj => (o74 j (by simp at hj ⊢; try omega)).trans ((o69 j (by simp at hj ⊢; try omega)).trans (rfl))), xx⟩ | exact ⟨hB, (fun b hb => (f74 b (by simp at hb ⊢; try omega)).trans ((f69 b (by simp at hb ⊢; try omega)).trans (rfl))), (fun j hj => (o74 j (by simp at hj ⊢; try omega)).trans ((o69 j (by simp at hj ⊢; try omega)).trans (rfl))), pe_ME_g hM0 (by omega) (by omega) (by omega) ⟨by omega, by rw [show σ74 29 2 = σ 29 2 by omega]; exact hbg⟩ (by omega) ((f74 30 (by decide)).trans ((f69 30 (by decide)).trans (rfl))) ((f74 31 (by decide)).trans ((f69 31 (by decide)).trans (rfl))) ((f74 36 (by decide)).trans ((f69 36 (by decide)).trans (rfl))) ((f74 32 (by decide)).trans ((f69 32 (by decide)).trans (rfl))) ((f74 33 (by decide)).trans ((f69 33 (by decide)).trans (rfl))) ((f74 34 (by decide)).trans ((f69 34 (by decide)).trans (rfl))) ((f74 35 (by decide)).trans ((f69 35 (by decide)).trans (rfl))), ⟨by omega, by omega, by omega, by omega, by omega, by omega, by omega⟩⟩
    · skip
      refine pe_aload_n d_M_inSequence_12 rfl ?_
      refine pe_bipush d_M_inSequence_13 ?_
      refine pe_aload_n d_M_inSequence_15 rfl ?_
      refine pe_geti f_M_168 d_M_inSequence_16 rfl rfl 14 rfl ?_
      refine pe_imul d_M_inSequence_19 ?_
      refine pe_iload_n d_M_inSequence_20 rfl ?_
      refine pe_iadd d_M_inSequence_21 ?_
      refine pe_bipush d_M_inSequence_22 ?_
      refine pe_isub d_M_inSequence_24 ?_
      refine pe_putiT f_M_168 g_11_14 d_M_inSequence_25 rfl rfl 14 rfl hB (by first | exact hB _ _ | exact hB0 _ _ | exact hBt _ _ | exact ⟨by omega, by omega⟩) (fun σ25 hB e25 o25 f25 => ?_)
      try have u25_0 : σ25 29 1 = σ 29 1 := by first | exact o25 1 (by decide) | exact congrFun (f25 29 (by decide)) 1
      try have u25_1 : σ25 29 2 = σ 29 2 := by first | exact o25 2 (by decide) | exact congrFun (f25 29 (by decide)) 2
      try have u25_2 : σ25 29 3 = σ 29 3 := by first | exact o25 3 (by decide) | exact congrFun (f25 29 (by decide)) 3
      try have u25_3 : σ25 29 5 = σ 29 5 := by first | exact o25 5 (by decide) | exact congrFun (f25 29 (by decide)) 5
      try have u25_4 : σ25 29 7 = σ 29 7 := by first | exact o25 7 (by decide) | exact congrFun (f25 29 (by decide)) 7
      try have u25_5 : σ25 29 21 = σ 29 21 := by first | exact o25 21 (by decide) | exact congrFun (f25 29 (by decide)) 21
      try have u25_6 : σ25 29 26 = σ 29 26 := by first | exact o25 26 (by decide) | exact congrFun (f25 29 (by decide)) 26
      try have u25_7 : σ25 29 14 = σ 29 14 := by first | exact o25 14 (by decide) | exact congrFun (f25 29 (by decide)) 14
      try have u25_8 : σ25 29 15 = σ 29 15 := by first | exact o25 15 (by decide) | exact congrFun (f25 29 (by decide)) 15
      try have u25_9 : σ25 29 16 = σ 29 16 := by first | exact o25 16 (by decide) | exact congrFun (f25 29 (by decide)) 16
      try have u25_10 : σ25 29 17 = σ 29 17 := by first | exact o25 17 (by decide) | exact congrFun (f25 29 (by decide)) 17
      try have u25_11 : σ25 29 18 = σ 29 18 := by first | exact o25 18 (by decide) | exact congrFun (f25 29 (by decide)) 18
      refine pe_aload_n d_M_inSequence_28 rfl ?_
      refine pe_aload_n d_M_inSequence_29 rfl ?_
      refine pe_geti f_M_168 d_M_inSequence_30 rfl rfl 14 rfl ?_
      refine pe_sipush d_M_inSequence_33 ?_
      refine pe_icmp_le (t := 45) d_M_inSequence_36 (by first | exact hB _ _ | exact hB0 _ _ | exact hBt _ _ | exact ⟨by omega, by omega⟩) (by first | exact hB _ _ | exact hB0 _ _ | exact hBt _ _ | exact ⟨by omega, by omega⟩) (fun h36 => ?_) (fun h36 => ?_)
      · skip
        refine pe_aload_n d_M_inSequence_45 rfl ?_
        refine pe_geti f_M_168 d_M_inSequence_46 rfl rfl 14 rfl ?_
        refine pe_putiT f_M_168 g_11_14 d_M_inSequence_49 rfl rfl 14 rfl hB (by first | exact hB _ _ | exact hB0 _ _ | exact hBt _ _ | exact ⟨by omega, by omega⟩) (fun σ49 hB e49 o49 f49 => ?_)
        try have u49_0 : σ49 29 1 = σ25 29 1 := by first | exact o49 1 (by decide) | exact congrFun (f49 29 (by decide)) 1
        try have u49_1 : σ49 29 2 = σ25 29 2 := by first | exact o49 2 (by decide) | exact congrFun (f49 29 (by decide)) 2
        try have u49_2 : σ49 29 3 = σ25 29 3 := by first | exact o49 3 (by decide) | exact congrFun (f49 29 (by decide)) 3
        try have u49_3 : σ49 29 5 = σ25 29 5 := by first | exact o49 5 (by decide) | exact congrFun (f49 29 (by decide)) 5
        try have u49_4 : σ49 29 7 = σ25 29 7 := by first | exact o49 7 (by decide) | exact congrFun (f49 29 (by decide)) 7
        try have u49_5 : σ49 29 21 = σ25 29 21 := by first | exact o49 21 (by decide) | exact congrFun (f49 29 (by decide)) 21
        try have u49_6 : σ49 29 26 = σ25 29 26 := by first | exact o49 26 (by decide) | exact congrFun (f49 29 (by decide)) 26
        try have u49_7 : σ49 29 14 = σ25 29 14 := by first | exact o49 14 (by decide) | exact congrFun (f49 29 (by decide)) 14
        try have u49_8 : σ49 29 15 = σ25 29 15 := by first | exact o49 15 (by decide) | exact congrFun (f49 29 (by decide)) 15
        try have u49_9 : σ49 29 16 = σ25 29 16 := by first | exact o49 16 (by decide) | exact congrFun (f49 29 (by decide)) 16
        try have u49_10 : σ49 29 17 = σ25 29 17 := by first | exact o49 17 (by decide) | exact congrFun (f49 29 (by decide)) 17
        try have u49_11 : σ49 29 18 = σ25 29 18 := by first | exact o49 18 (by decide) | exact congrFun (f49 29 (by decide)) 18
        refine pe_goto (t := 91) d_M_inSequence_52 ?_
        refine pe_rv d_M_inSequence_91 ?_
        first | exact ⟨hB, (fun b hb => (f49 b (by simp at hb ⊢; try omega)).trans ((f25 b (by simp at hb ⊢; try omega)).trans (rfl))), (fun j hj => (o49 j (by simp at hj ⊢; try omega)).trans ((o25 j (by simp at hj ⊢; try omega)).trans (rfl))), xx⟩ | exact ⟨hB, (fun b hb => (f49 b (by simp at hb ⊢; try omega)).trans ((f25 b (by simp at hb ⊢; try omega)).trans (rfl))), (fun j hj => (o49 j (by simp at hj ⊢; try omega)).trans ((o25 j (by simp at hj ⊢; try omega)).trans (rfl))), pe_ME_g hM0 (by omega) (by omega) (by omega) ⟨by omega, by rw [show σ49 29 2 = σ 29 2 by omega]; exact hbg⟩ (by omega) ((f49 30 (by decide)).trans ((f25 30 (by decide)).trans (rfl))) ((f49 31 (by decide)).trans ((f25 31 (by decide)).trans (rfl))) ((f49 36 (by decide)).trans ((f25 36 (by decide)).trans (rfl))) ((f49 32 (by decide)).trans ((f25 32 (by decide)).trans (rfl))) ((f49 33 (by decide)).trans ((f25 33 (by decide)).trans (rfl))) ((f49 34 (by decide)).trans ((f25 34 (by decide)).trans (rfl))) ((f49 35 (by decide)).trans ((f25 35 (by decide)).trans (rfl))), ⟨by omega, by omega, by omega, by omega, by omega, by omega, by omega⟩⟩
      · skip
        refine pe_sipush d_M_inSequence_39 ?_
        refine pe_goto (t := 49) d_M_inSequence_42 ?_
        refine pe_putiT f_M_168 g_11_14 d_M_inSequence_49 rfl rfl 14 rfl hB (by first | exact hB _ _ | exact hB0 _ _ | exact hBt _ _ | exact ⟨by omega, by omega⟩) (fun σ49 hB e49 o49 f49 => ?_)
        try have u49_0 : σ49 29 1 = σ25 29 1 := by first | exact o49 1 (by decide) | exact congrFun (f49 29 (by decide)) 1
        try have u49_1 : σ49 29 2 = σ25 29 2 := by first | exact o49 2 (by decide) | exact congrFun (f49 29 (by decide)) 2
        try have u49_2 : σ49 29 3 = σ25 29 3 := by first | exact o49 3 (by decide) | exact congrFun (f49 29 (by decide)) 3
        try have u49_3 : σ49 29 5 = σ25 29 5 := by first | exact o49 5 (by decide) | exact congrFun (f49 29 (by decide)) 5
        try have u49_4 : σ49 29 7 = σ25 29 7 := by first | exact o49 7 (by decide) | exact congrFun (f49 29 (by decide)) 7
        try have u49_5 : σ49 29 21 = σ25 29 21 := by first | exact o49 21 (by decide) | exact congrFun (f49 29 (by decide)) 21
        try have u49_6 : σ49 29 26 = σ25 29 26 := by first | exact o49 26 (by decide) | exact congrFun (f49 29 (by decide)) 26
        try have u49_7 : σ49 29 14 = σ25 29 14 := by first | exact o49 14 (by decide) | exact congrFun (f49 29 (by decide)) 14
        try have u49_8 : σ49 29 15 = σ25 29 15 := by first | exact o49 15 (by decide) | exact congrFun (f49 29 (by decide)) 15
        try have u49_9 : σ49 29 16 = σ25 29 16 := by first | exact o49 16 (by decide) | exact congrFun (f49 29 (by decide)) 16
        try have u49_10 : σ49 29 17 = σ25 29 17 := by first | exact o49 17 (by decide) | exact congrFun (f49 29 (by decide)) 17
        try have u49_11 : σ49 29 18 = σ25 29 18 := by first | exact o49 18 (by decide) | exact congrFun (f49 29 (by decide)) 18
        refine pe_goto (t := 91) d_M_inSequence_52 ?_
        refine pe_rv d_M_inSequence_91 ?_
        first | exact ⟨hB, (fun b hb => (f49 b (by simp at hb ⊢; try omega)).trans ((f25 b (by simp at hb ⊢; try omega)).trans (rfl))), (fun j hj => (o49 j (by simp at hj ⊢; try omega)).trans ((o25 j (by simp at hj ⊢; try omega)).trans (rfl))), xx⟩ | exact ⟨hB, (fun b hb => (f49 b (by simp at hb ⊢; try omega)).trans ((f25 b (by simp at hb ⊢; try omega)).trans (rfl))), (fun j hj => (o49 j (by simp at hj ⊢; try omega)).trans ((o25 j (by simp at hj ⊢; try omega)).trans (rfl))), pe_ME_g hM0 (by omega) (by omega) (by omega) ⟨by omega, by rw [show σ49 29 2 = σ 29 2 by omega]; exact hbg⟩ (by omega) ((f49 30 (by decide)).trans ((f25 30 (by decide)).trans (rfl))) ((f49 31 (by decide)).trans ((f25 31 (by decide)).trans (rfl))) ((f49 36 (by decide)).trans ((f25 36 (by decide)).trans (rfl))) ((f49 32 (by decide)).trans ((f25 32 (by decide)).trans (rfl))) ((f49 33 (by decide)).trans ((f25 33 (by decide)).trans (rfl))) ((f49 34 (by decide)).trans ((f25 34 (by decide)).trans (rfl))) ((f49 35 (by decide)).trans ((f25 35 (by decide)).trans (rfl))), ⟨by omega, by omega, by omega, by omega, by omega, by omega, by omega⟩⟩
theorem t_M_take {σ : pe_H} {k : Int} (hB : pe_B σ) (hM : pe_MEs σ) (hK : pe_KI (σ 29)) (hco : 1 ≤ σ 29 21 ∧ σ 29 21 ≤ 24) (hk : 0 ≤ k ∧ k ≤ 255) : pe_M m_M_take [pe_r 29, pe_i k] σ (pe_qv (fun σ' => pe_B σ' ∧ (∀ b, b ∉ [29, 30, 31, 32, 33, 34, 35, 36, 37, 38, 39] → σ' b = σ b) ∧ (∀ j, j ∉ ([1, 2, 3, 5, 6, 7, 13, 14, 15, 16, 17, 18, 19, 20, 26, 41] : List Int) → σ' 29 j = σ 29 j) ∧ (pe_MEs σ' ∧ pe_KI (σ' 29)))) := by
  refine pe_in0 (lv := [some (pe_r 29), some (pe_i k), none]) ?_
  have hB0 := hB
  have hM0 := hM
  obtain ⟨hl, A30, A31, A36, ⟨hcu, hbg⟩, hma, hcl, hcg, hch, N30, N31, N36⟩ := hM
  have hK0 := hK
  obtain ⟨k1, k2, k3, k4, k5, k6, k7⟩ := hK
  refine pe_aload_n d_M_take_0 rfl ?_
  refine pe_geti f_M_38 d_M_take_1 rfl rfl 20 rfl ?_
  refine pe_istore_n d_M_take_4 ?_
  refine pe_aload_n d_M_take_5 rfl ?_
  refine pe_iload_n d_M_take_6 rfl ?_
  refine pe_putiT f_M_38 g_11_20 d_M_take_7 rfl rfl 20 rfl hB (by first | exact hB _ _ | exact hB0 _ _ | exact hBt _ _ | exact ⟨by omega, by omega⟩) (fun σ7 hB e7 o7 f7 => ?_)
  try have u7_0 : σ7 29 1 = σ 29 1 := by first | exact o7 1 (by decide) | exact congrFun (f7 29 (by decide)) 1
  try have u7_1 : σ7 29 2 = σ 29 2 := by first | exact o7 2 (by decide) | exact congrFun (f7 29 (by decide)) 2
  try have u7_2 : σ7 29 3 = σ 29 3 := by first | exact o7 3 (by decide) | exact congrFun (f7 29 (by decide)) 3
  try have u7_3 : σ7 29 5 = σ 29 5 := by first | exact o7 5 (by decide) | exact congrFun (f7 29 (by decide)) 5
  try have u7_4 : σ7 29 7 = σ 29 7 := by first | exact o7 7 (by decide) | exact congrFun (f7 29 (by decide)) 7
  try have u7_5 : σ7 29 21 = σ 29 21 := by first | exact o7 21 (by decide) | exact congrFun (f7 29 (by decide)) 21
  try have u7_6 : σ7 29 26 = σ 29 26 := by first | exact o7 26 (by decide) | exact congrFun (f7 29 (by decide)) 26
  try have u7_7 : σ7 29 14 = σ 29 14 := by first | exact o7 14 (by decide) | exact congrFun (f7 29 (by decide)) 14
  try have u7_8 : σ7 29 15 = σ 29 15 := by first | exact o7 15 (by decide) | exact congrFun (f7 29 (by decide)) 15
  try have u7_9 : σ7 29 16 = σ 29 16 := by first | exact o7 16 (by decide) | exact congrFun (f7 29 (by decide)) 16
  try have u7_10 : σ7 29 17 = σ 29 17 := by first | exact o7 17 (by decide) | exact congrFun (f7 29 (by decide)) 17
  try have u7_11 : σ7 29 18 = σ 29 18 := by first | exact o7 18 (by decide) | exact congrFun (f7 29 (by decide)) 18
  refine pe_aload_n d_M_take_10 rfl ?_
  refine pe_geti f_M_184 d_M_take_11 rfl rfl 15 rfl ?_
  refine pe_if_le (t := 26) d_M_take_14 (by first | exact hB _ _ | exact hB0 _ _ | exact hBt _ _ | exact ⟨by omega, by omega⟩) (fun h14 => ?_) (fun h14 => ?_)
  · skip
    refine pe_aload_n d_M_take_26 rfl ?_
    refine pe_geti f_M_181 d_M_take_27 rfl rfl 13 rfl ?_
    refine pe_if_ne (t := 42) d_M_take_30 (by first | exact hB _ _ | exact hB0 _ _ | exact hBt _ _ | exact ⟨by omega, by omega⟩) (fun h30 => ?_) (fun h30 => ?_)
    · skip
      refine pe_aload_n d_M_take_42 rfl ?_
      refine pe_geti f_M_181 d_M_take_43 rfl rfl 13 rfl ?_
      refine pe_iconst d_M_take_46 ?_
      refine pe_icmp_ne (t := 59) d_M_take_47 (by first | exact hB _ _ | exact hB0 _ _ | exact hBt _ _ | exact ⟨by omega, by omega⟩) (by first | exact hB _ _ | exact hB0 _ _ | exact hBt _ _ | exact ⟨by omega, by omega⟩) (fun h47 => ?_) (fun h47 => ?_)
      · skip
        refine pe_iload_n d_M_take_59 rfl ?_
        refine pe_bipush d_M_take_60 ?_
        refine pe_icmp_ne (t := 78) d_M_take_62 (by first | exact hB _ _ | exact hB0 _ _ | exact hBt _ _ | exact ⟨by omega, by omega⟩) (by first | exact hB _ _ | exact hB0 _ _ | exact hBt _ _ | exact ⟨by omega, by omega⟩) (fun h62 => ?_) (fun h62 => ?_)
        · skip
          refine pe_aload_n d_M_take_78 rfl ?_
          refine pe_v0v d_M_take_79 c_M_212 i_M_escapeKey s_M_escapeKey rfl rfl (t_M_escapeKey hB (pe_ME_g hM0 (by omega) (by omega) (by omega) ⟨by omega, by rw [show σ7 29 2 = σ 29 2 by omega]; exact hbg⟩ (by omega) ((f7 30 (by decide)).trans (rfl)) ((f7 31 (by decide)).trans (rfl)) ((f7 36 (by decide)).trans (rfl)) ((f7 32 (by decide)).trans (rfl)) ((f7 33 (by decide)).trans (rfl)) ((f7 34 (by decide)).trans (rfl)) ((f7 35 (by decide)).trans (rfl)))) (fun σ79 hz79 => ?_)
          obtain ⟨hB, f79, o79, x79⟩ := hz79
          try have u79_0 : σ79 29 1 = σ7 29 1 := by first | exact o79 1 (by decide) | exact congrFun (f79 29 (by decide)) 1
          try have u79_1 : σ79 29 2 = σ7 29 2 := by first | exact o79 2 (by decide) | exact congrFun (f79 29 (by decide)) 2
          try have u79_2 : σ79 29 3 = σ7 29 3 := by first | exact o79 3 (by decide) | exact congrFun (f79 29 (by decide)) 3
          try have u79_3 : σ79 29 5 = σ7 29 5 := by first | exact o79 5 (by decide) | exact congrFun (f79 29 (by decide)) 5
          try have u79_4 : σ79 29 7 = σ7 29 7 := by first | exact o79 7 (by decide) | exact congrFun (f79 29 (by decide)) 7
          try have u79_5 : σ79 29 21 = σ7 29 21 := by first | exact o79 21 (by decide) | exact congrFun (f79 29 (by decide)) 21
          try have u79_6 : σ79 29 26 = σ7 29 26 := by first | exact o79 26 (by decide) | exact congrFun (f79 29 (by decide)) 26
          try have u79_7 : σ79 29 14 = σ7 29 14 := by first | exact o79 14 (by decide) | exact congrFun (f79 29 (by decide)) 14
          try have u79_8 : σ79 29 15 = σ7 29 15 := by first | exact o79 15 (by decide) | exact congrFun (f79 29 (by decide)) 15
          try have u79_9 : σ79 29 16 = σ7 29 16 := by first | exact o79 16 (by decide) | exact congrFun (f79 29 (by decide)) 16
          try have u79_10 : σ79 29 17 = σ7 29 17 := by first | exact o79 17 (by decide) | exact congrFun (f79 29 (by decide)) 17
          try have u79_11 : σ79 29 18 = σ7 29 18 := by first | exact o79 18 (by decide) | exact congrFun (f79 29 (by decide)) 18
          have hM1 := x79
          have xx : pe_MEs σ79 ∧ pe_KI (σ79 29) := ⟨x79, ⟨by omega, by omega, by omega, by omega, by omega, by omega, by omega⟩⟩
          refine pe_iload_n d_M_take_82 rfl ?_
          refine pe_bipush d_M_take_83 ?_
          refine pe_icmp_eq (t := 99) d_M_take_85 (by first | exact hB _ _ | exact hB0 _ _ | exact hBt _ _ | exact ⟨by omega, by omega⟩) (by first | exact hB _ _ | exact hB0 _ _ | exact hBt _ _ | exact ⟨by omega, by omega⟩) (fun h85 => ?_) (fun h85 => ?_)
          · skip
            refine pe_rv d_M_take_99 ?_
            first | exact ⟨hB, (fun b hb => (f79 b (by simp at hb ⊢; try omega)).trans ((f7 b (by simp at hb ⊢; try omega)).trans (rfl))), (fun j hj => (o79 j (by simp at hj ⊢; try omega)).trans ((o7 j (by simp at hj ⊢; try omega)).trans (rfl))), xx⟩ | exact ⟨hB, (fun b hb => (f79 b (by simp at hb ⊢; try omega)).trans ((f7 b (by simp at hb ⊢; try omega)).trans (rfl))), (fun j hj => (o79 j (by simp at hj ⊢; try omega)).trans ((o7 j (by simp at hj ⊢; try omega)).trans (rfl))), pe_ME_g hM0 (by omega) (by omega) (by omega) ⟨by omega, by rw [show σ79 29 2 = σ 29 2 by omega]; exact hbg⟩ (by omega) ((f79 30 (by decide)).trans ((f7 30 (by decide)).trans (rfl))) ((f79 31 (by decide)).trans ((f7 31 (by decide)).trans (rfl))) ((f79 36 (by decide)).trans ((f7 36 (by decide)).trans (rfl))) ((f79 32 (by decide)).trans ((f7 32 (by decide)).trans (rfl))) ((f79 33 (by decide)).trans ((f7 33 (by decide)).trans (rfl))) ((f79 34 (by decide)).trans ((f7 34 (by decide)).trans (rfl))) ((f79 35 (by decide)).trans ((f7 35 (by decide)).trans (rfl))), ⟨by omega, by omega, by omega, by omega, by omega, by omega, by omega⟩⟩
          · skip
            refine pe_aload_n d_M_take_88 rfl ?_
            refine pe_iconst d_M_take_89 ?_
            refine pe_putiT f_M_181 g_11_13 d_M_take_90 rfl rfl 13 rfl hB (by first | exact hB _ _ | exact hB0 _ _ | exact hBt _ _ | exact ⟨by omega, by omega⟩) (fun σ90 hB e90 o90 f90 => ?_)
            try have u90_0 : σ90 29 1 = σ79 29 1 := by first | exact o90 1 (by decide) | exact congrFun (f90 29 (by decide)) 1
            try have u90_1 : σ90 29 2 = σ79 29 2 := by first | exact o90 2 (by decide) | exact congrFun (f90 29 (by decide)) 2
            try have u90_2 : σ90 29 3 = σ79 29 3 := by first | exact o90 3 (by decide) | exact congrFun (f90 29 (by decide)) 3
            try have u90_3 : σ90 29 5 = σ79 29 5 := by first | exact o90 5 (by decide) | exact congrFun (f90 29 (by decide)) 5
            try have u90_4 : σ90 29 7 = σ79 29 7 := by first | exact o90 7 (by decide) | exact congrFun (f90 29 (by decide)) 7
            try have u90_5 : σ90 29 21 = σ79 29 21 := by first | exact o90 21 (by decide) | exact congrFun (f90 29 (by decide)) 21
            try have u90_6 : σ90 29 26 = σ79 29 26 := by first | exact o90 26 (by decide) | exact congrFun (f90 29 (by decide)) 26
            try have u90_7 : σ90 29 14 = σ79 29 14 := by first | exact o90 14 (by decide) | exact congrFun (f90 29 (by decide)) 14
            try have u90_8 : σ90 29 15 = σ79 29 15 := by first | exact o90 15 (by decide) | exact congrFun (f90 29 (by decide)) 15
            try have u90_9 : σ90 29 16 = σ79 29 16 := by first | exact o90 16 (by decide) | exact congrFun (f90 29 (by decide)) 16
            try have u90_10 : σ90 29 17 = σ79 29 17 := by first | exact o90 17 (by decide) | exact congrFun (f90 29 (by decide)) 17
            try have u90_11 : σ90 29 18 = σ79 29 18 := by first | exact o90 18 (by decide) | exact congrFun (f90 29 (by decide)) 18
            refine pe_aload_n d_M_take_93 rfl ?_
            refine pe_iload_n d_M_take_94 rfl ?_
            refine pe_iload_n d_M_take_95 rfl ?_
            refine pe_v2v d_M_take_96 c_M_200 i_M_plain s_M_plain rfl rfl (t_M_plain hB (pe_ME_to hM1 (by omega) (by omega) (by omega) (by omega) (by omega) (f90 30 (by decide)) (f90 31 (by decide)) (f90 36 (by decide)) (f90 32 (by decide)) (f90 33 (by decide)) (f90 34 (by decide)) (f90 35 (by decide))) ⟨by omega, by omega, by omega, by omega, by omega, by omega, by omega⟩ (by omega) (by first | exact hB _ _ | exact hB0 _ _ | exact hBt _ _ | exact ⟨by omega, by omega⟩)) (fun σ96 hz96 => ?_)
            obtain ⟨hB, f96, o96, x96⟩ := hz96
            try have u96_0 : σ96 29 1 = σ90 29 1 := by first | exact o96 1 (by decide) | exact congrFun (f96 29 (by decide)) 1
            try have u96_1 : σ96 29 2 = σ90 29 2 := by first | exact o96 2 (by decide) | exact congrFun (f96 29 (by decide)) 2
            try have u96_2 : σ96 29 3 = σ90 29 3 := by first | exact o96 3 (by decide) | exact congrFun (f96 29 (by decide)) 3
            try have u96_3 : σ96 29 5 = σ90 29 5 := by first | exact o96 5 (by decide) | exact congrFun (f96 29 (by decide)) 5
            try have u96_4 : σ96 29 7 = σ90 29 7 := by first | exact o96 7 (by decide) | exact congrFun (f96 29 (by decide)) 7
            try have u96_5 : σ96 29 21 = σ90 29 21 := by first | exact o96 21 (by decide) | exact congrFun (f96 29 (by decide)) 21
            try have u96_6 : σ96 29 26 = σ90 29 26 := by first | exact o96 26 (by decide) | exact congrFun (f96 29 (by decide)) 26
            try have u96_7 : σ96 29 14 = σ90 29 14 := by first | exact o96 14 (by decide) | exact congrFun (f96 29 (by decide)) 14
            try have u96_8 : σ96 29 15 = σ90 29 15 := by first | exact o96 15 (by decide) | exact congrFun (f96 29 (by decide)) 15
            try have u96_9 : σ96 29 16 = σ90 29 16 := by first | exact o96 16 (by decide) | exact congrFun (f96 29 (by decide)) 16
            try have u96_10 : σ96 29 17 = σ90 29 17 := by first | exact o96 17 (by decide) | exact congrFun (f96 29 (by decide)) 17
            try have u96_11 : σ96 29 18 = σ90 29 18 := by first | exact o96 18 (by decide) | exact congrFun (f96 29 (by decide)) 18
            have xx := x96
            refine pe_rv d_M_take_99 ?_
            first | exact ⟨hB, (fun b hb => (f96 b (by simp at hb ⊢; try omega)).trans ((f90 b (by simp at hb ⊢; try omega)).trans ((f79 b (by simp at hb ⊢; try omega)).trans ((f7 b (by simp at hb ⊢; try omega)).trans (rfl))))), (fun j hj => (o96 j (by simp at hj ⊢; try omega)).trans ((o90 j (by simp at hj ⊢; try omega)).trans ((o79 j (by simp at hj ⊢; try omega)).trans ((o7 j (by simp at hj ⊢; try omega)).trans (rfl))))), xx⟩ | exact ⟨hB, (fun b hb => (f96 b (by simp at hb ⊢; try omega)).trans ((f90 b (by simp at hb ⊢; try omega)).trans ((f79 b (by simp at hb ⊢; try omega)).trans ((f7 b (by simp at hb ⊢; try omega)).trans (rfl))))), (fun j hj => (o96 j (by simp at hj ⊢; try omega)).trans ((o90 j (by simp at hj ⊢; try omega)).trans ((o79 j (by simp at hj ⊢; try omega)).trans ((o7 j (by simp at hj ⊢; try omega)).trans (rfl))))), pe_ME_g hM0 (by omega) (by omega) (by omega) ⟨by omega, by rw [show σ96 29 2 = σ 29 2 by omega]; exact hbg⟩ (by omega) ((f96 30 (by decide)).trans ((f90 30 (by decide)).trans ((f79 30 (by decide)).trans ((f7 30 (by decide)).trans (rfl))))) ((f96 31 (by decide)).trans ((f90 31 (by decide)).trans ((f79 31 (by decide)).trans ((f7 31 (by decide)).trans (rfl))))) ((f96 36 (by decide)).trans ((f90 36 (by decide)).trans ((f79 36 (by decide)).trans ((f7 36 (by decide)).trans (rfl))))) ((f96 32 (by decide)).trans ((f90 32 (by decide)).trans ((f79 32 (by decide)).trans ((f7 32 (by decide)).trans (rfl))))) ((f96 33 (by decide)).trans ((f90 33 (by decide)).trans ((f79 33 (by decide)).trans ((f7 33 (by decide)).trans (rfl))))) ((f96 34 (by decide)).trans ((f90 34 (by decide)).trans ((f79 34 (by decide)).trans ((f7 34 (by decide)).trans (rfl))))) ((f96 35 (by decide)).trans ((f90 35 (by decide)).trans ((f79 35 (by decide)).trans ((f7 35 (by decide)).trans (rfl))))), ⟨by omega, by omega, by omega, by omega, by omega, by omega, by omega⟩⟩
        · skip
          refine pe_aload_n d_M_take_65 rfl ?_
          refine pe_iconst d_M_take_66 ?_
          refine pe_putiT f_M_181 g_11_13 d_M_take_67 rfl rfl 13 rfl hB (by first | exact hB _ _ | exact hB0 _ _ | exact hBt _ _ | exact ⟨by omega, by omega⟩) (fun σ67 hB e67 o67 f67 => ?_)
          try have u67_0 : σ67 29 1 = σ7 29 1 := by first | exact o67 1 (by decide) | exact congrFun (f67 29 (by decide)) 1
          try have u67_1 : σ67 29 2 = σ7 29 2 := by first | exact o67 2 (by decide) | exact congrFun (f67 29 (by decide)) 2
          try have u67_2 : σ67 29 3 = σ7 29 3 := by first | exact o67 3 (by decide) | exact congrFun (f67 29 (by decide)) 3
          try have u67_3 : σ67 29 5 = σ7 29 5 := by first | exact o67 5 (by decide) | exact congrFun (f67 29 (by decide)) 5
          try have u67_4 : σ67 29 7 = σ7 29 7 := by first | exact o67 7 (by decide) | exact congrFun (f67 29 (by decide)) 7
          try have u67_5 : σ67 29 21 = σ7 29 21 := by first | exact o67 21 (by decide) | exact congrFun (f67 29 (by decide)) 21
          try have u67_6 : σ67 29 26 = σ7 29 26 := by first | exact o67 26 (by decide) | exact congrFun (f67 29 (by decide)) 26
          try have u67_7 : σ67 29 14 = σ7 29 14 := by first | exact o67 14 (by decide) | exact congrFun (f67 29 (by decide)) 14
          try have u67_8 : σ67 29 15 = σ7 29 15 := by first | exact o67 15 (by decide) | exact congrFun (f67 29 (by decide)) 15
          try have u67_9 : σ67 29 16 = σ7 29 16 := by first | exact o67 16 (by decide) | exact congrFun (f67 29 (by decide)) 16
          try have u67_10 : σ67 29 17 = σ7 29 17 := by first | exact o67 17 (by decide) | exact congrFun (f67 29 (by decide)) 17
          try have u67_11 : σ67 29 18 = σ7 29 18 := by first | exact o67 18 (by decide) | exact congrFun (f67 29 (by decide)) 18
          refine pe_aload_n d_M_take_70 rfl ?_
          refine pe_iconst d_M_take_71 ?_
          refine pe_putiT f_M_168 g_11_14 d_M_take_72 rfl rfl 14 rfl hB (by first | exact hB _ _ | exact hB0 _ _ | exact hBt _ _ | exact ⟨by omega, by omega⟩) (fun σ72 hB e72 o72 f72 => ?_)
          try have u72_0 : σ72 29 1 = σ67 29 1 := by first | exact o72 1 (by decide) | exact congrFun (f72 29 (by decide)) 1
          try have u72_1 : σ72 29 2 = σ67 29 2 := by first | exact o72 2 (by decide) | exact congrFun (f72 29 (by decide)) 2
          try have u72_2 : σ72 29 3 = σ67 29 3 := by first | exact o72 3 (by decide) | exact congrFun (f72 29 (by decide)) 3
          try have u72_3 : σ72 29 5 = σ67 29 5 := by first | exact o72 5 (by decide) | exact congrFun (f72 29 (by decide)) 5
          try have u72_4 : σ72 29 7 = σ67 29 7 := by first | exact o72 7 (by decide) | exact congrFun (f72 29 (by decide)) 7
          try have u72_5 : σ72 29 21 = σ67 29 21 := by first | exact o72 21 (by decide) | exact congrFun (f72 29 (by decide)) 21
          try have u72_6 : σ72 29 26 = σ67 29 26 := by first | exact o72 26 (by decide) | exact congrFun (f72 29 (by decide)) 26
          try have u72_7 : σ72 29 14 = σ67 29 14 := by first | exact o72 14 (by decide) | exact congrFun (f72 29 (by decide)) 14
          try have u72_8 : σ72 29 15 = σ67 29 15 := by first | exact o72 15 (by decide) | exact congrFun (f72 29 (by decide)) 15
          try have u72_9 : σ72 29 16 = σ67 29 16 := by first | exact o72 16 (by decide) | exact congrFun (f72 29 (by decide)) 16
          try have u72_10 : σ72 29 17 = σ67 29 17 := by first | exact o72 17 (by decide) | exact congrFun (f72 29 (by decide)) 17
          try have u72_11 : σ72 29 18 = σ67 29 18 := by first | exact o72 18 (by decide) | exact congrFun (f72 29 (by decide)) 18
          refine pe_goto (t := 99) d_M_take_75 ?_
          refine pe_rv d_M_take_99 ?_
          first | exact ⟨hB, (fun b hb => (f72 b (by simp at hb ⊢; try omega)).trans ((f67 b (by simp at hb ⊢; try omega)).trans ((f7 b (by simp at hb ⊢; try omega)).trans (rfl)))), (fun j hj => (o72 j (by simp at hj ⊢; try omega)).trans ((o67 j (by simp at hj ⊢; try omega)).trans ((o7 j (by simp at hj ⊢; try omega)).trans (rfl)))), xx⟩ | exact ⟨hB, (fun b hb => (f72 b (by simp at hb ⊢; try omega)).trans ((f67 b (by simp at hb ⊢; try omega)).trans ((f7 b (by simp at hb ⊢; try omega)).trans (rfl)))), (fun j hj => (o72 j (by simp at hj ⊢; try omega)).trans ((o67 j (by simp at hj ⊢; try omega)).trans ((o7 j (by simp at hj ⊢; try omega)).trans (rfl)))), pe_ME_g hM0 (by omega) (by omega) (by omega) ⟨by omega, by rw [show σ72 29 2 = σ 29 2 by omega]; exact hbg⟩ (by omega) ((f72 30 (by decide)).trans ((f67 30 (by decide)).trans ((f7 30 (by decide)).trans (rfl)))) ((f72 31 (by decide)).trans ((f67 31 (by decide)).trans ((f7 31 (by decide)).trans (rfl)))) ((f72 36 (by decide)).trans ((f67 36 (by decide)).trans ((f7 36 (by decide)).trans (rfl)))) ((f72 32 (by decide)).trans ((f67 32 (by decide)).trans ((f7 32 (by decide)).trans (rfl)))) ((f72 33 (by decide)).trans ((f67 33 (by decide)).trans ((f7 33 (by decide)).trans (rfl)))) ((f72 34 (by decide)).trans ((f67 34 (by decide)).trans ((f7 34 (by decide)).trans (rfl)))) ((f72 35 (by decide)).trans ((f67 35 (by decide)).trans ((f7 35 (by decide)).trans (rfl)))), ⟨by omega, by omega, by omega, by omega, by omega, by omega, by omega⟩⟩
      · skip
        refine pe_aload_n d_M_take_50 rfl ?_
        refine pe_iload_n d_M_take_51 rfl ?_
        refine pe_iload_n d_M_take_52 rfl ?_
        refine pe_v2v d_M_take_53 c_M_209 i_M_inSequence s_M_inSequence rfl rfl (t_M_inSequence hB (pe_ME_g hM0 (by omega) (by omega) (by omega) ⟨by omega, by rw [show σ7 29 2 = σ 29 2 by omega]; exact hbg⟩ (by omega) ((f7 30 (by decide)).trans (rfl)) ((f7 31 (by decide)).trans (rfl)) ((f7 36 (by decide)).trans (rfl)) ((f7 32 (by decide)).trans (rfl)) ((f7 33 (by decide)).trans (rfl)) ((f7 34 (by decide)).trans (rfl)) ((f7 35 (by decide)).trans (rfl))) ⟨by omega, by omega, by omega, by omega, by omega, by omega, by omega⟩ (by omega) (by omega) (by first | exact hB _ _ | exact hB0 _ _ | exact hBt _ _ | exact ⟨by omega, by omega⟩)) (fun σ53 hz53 => ?_)
        obtain ⟨hB, f53, o53, x53⟩ := hz53
        try have u53_0 : σ53 29 1 = σ7 29 1 := by first | exact o53 1 (by decide) | exact congrFun (f53 29 (by decide)) 1
        try have u53_1 : σ53 29 2 = σ7 29 2 := by first | exact o53 2 (by decide) | exact congrFun (f53 29 (by decide)) 2
        try have u53_2 : σ53 29 3 = σ7 29 3 := by first | exact o53 3 (by decide) | exact congrFun (f53 29 (by decide)) 3
        try have u53_3 : σ53 29 5 = σ7 29 5 := by first | exact o53 5 (by decide) | exact congrFun (f53 29 (by decide)) 5
        try have u53_4 : σ53 29 7 = σ7 29 7 := by first | exact o53 7 (by decide) | exact congrFun (f53 29 (by decide)) 7
        try have u53_5 : σ53 29 21 = σ7 29 21 := by first | exact o53 21 (by decide) | exact congrFun (f53 29 (by decide)) 21
        try have u53_6 : σ53 29 26 = σ7 29 26 := by first | exact o53 26 (by decide) | exact congrFun (f53 29 (by decide)) 26
        try have u53_7 : σ53 29 14 = σ7 29 14 := by first | exact o53 14 (by decide) | exact congrFun (f53 29 (by decide)) 14
        try have u53_8 : σ53 29 15 = σ7 29 15 := by first | exact o53 15 (by decide) | exact congrFun (f53 29 (by decide)) 15
        try have u53_9 : σ53 29 16 = σ7 29 16 := by first | exact o53 16 (by decide) | exact congrFun (f53 29 (by decide)) 16
        try have u53_10 : σ53 29 17 = σ7 29 17 := by first | exact o53 17 (by decide) | exact congrFun (f53 29 (by decide)) 17
        try have u53_11 : σ53 29 18 = σ7 29 18 := by first | exact o53 18 (by decide) | exact congrFun (f53 29 (by decide)) 18
        have xx := x53
        refine pe_goto (t := 99) d_M_take_56 ?_
        refine pe_rv d_M_take_99 ?_
        first | exact ⟨hB, (fun b hb => (f53 b (by simp at hb ⊢; try omega)).trans ((f7 b (by simp at hb ⊢; try omega)).trans (rfl))), (fun j hj => (o53 j (by simp at hj ⊢; try omega)).trans ((o7 j (by simp at hj ⊢; try omega)).trans (rfl))), xx⟩ | exact ⟨hB, (fun b hb => (f53 b (by simp at hb ⊢; try omega)).trans ((f7 b (by simp at hb ⊢; try omega)).trans (rfl))), (fun j hj => (o53 j (by simp at hj ⊢; try omega)).trans ((o7 j (by simp at hj ⊢; try omega)).trans (rfl))), pe_ME_g hM0 (by omega) (by omega) (by omega) ⟨by omega, by rw [show σ53 29 2 = σ 29 2 by omega]; exact hbg⟩ (by omega) ((f53 30 (by decide)).trans ((f7 30 (by decide)).trans (rfl))) ((f53 31 (by decide)).trans ((f7 31 (by decide)).trans (rfl))) ((f53 36 (by decide)).trans ((f7 36 (by decide)).trans (rfl))) ((f53 32 (by decide)).trans ((f7 32 (by decide)).trans (rfl))) ((f53 33 (by decide)).trans ((f7 33 (by decide)).trans (rfl))) ((f53 34 (by decide)).trans ((f7 34 (by decide)).trans (rfl))) ((f53 35 (by decide)).trans ((f7 35 (by decide)).trans (rfl))), ⟨by omega, by omega, by omega, by omega, by omega, by omega, by omega⟩⟩
    · skip
      refine pe_aload_n d_M_take_33 rfl ?_
      refine pe_iload_n d_M_take_34 rfl ?_
      refine pe_iload_n d_M_take_35 rfl ?_
      refine pe_v2v d_M_take_36 c_M_200 i_M_plain s_M_plain rfl rfl (t_M_plain hB (pe_ME_g hM0 (by omega) (by omega) (by omega) ⟨by omega, by rw [show σ7 29 2 = σ 29 2 by omega]; exact hbg⟩ (by omega) ((f7 30 (by decide)).trans (rfl)) ((f7 31 (by decide)).trans (rfl)) ((f7 36 (by decide)).trans (rfl)) ((f7 32 (by decide)).trans (rfl)) ((f7 33 (by decide)).trans (rfl)) ((f7 34 (by decide)).trans (rfl)) ((f7 35 (by decide)).trans (rfl))) ⟨by omega, by omega, by omega, by omega, by omega, by omega, by omega⟩ (by omega) (by first | exact hB _ _ | exact hB0 _ _ | exact hBt _ _ | exact ⟨by omega, by omega⟩)) (fun σ36 hz36 => ?_)
      obtain ⟨hB, f36, o36, x36⟩ := hz36
      try have u36_0 : σ36 29 1 = σ7 29 1 := by first | exact o36 1 (by decide) | exact congrFun (f36 29 (by decide)) 1
      try have u36_1 : σ36 29 2 = σ7 29 2 := by first | exact o36 2 (by decide) | exact congrFun (f36 29 (by decide)) 2
      try have u36_2 : σ36 29 3 = σ7 29 3 := by first | exact o36 3 (by decide) | exact congrFun (f36 29 (by decide)) 3
      try have u36_3 : σ36 29 5 = σ7 29 5 := by first | exact o36 5 (by decide) | exact congrFun (f36 29 (by decide)) 5
      try have u36_4 : σ36 29 7 = σ7 29 7 := by first | exact o36 7 (by decide) | exact congrFun (f36 29 (by decide)) 7
      try have u36_5 : σ36 29 21 = σ7 29 21 := by first | exact o36 21 (by decide) | exact congrFun (f36 29 (by decide)) 21
      try have u36_6 : σ36 29 26 = σ7 29 26 := by first | exact o36 26 (by decide) | exact congrFun (f36 29 (by decide)) 26
      try have u36_7 : σ36 29 14 = σ7 29 14 := by first | exact o36 14 (by decide) | exact congrFun (f36 29 (by decide)) 14
      try have u36_8 : σ36 29 15 = σ7 29 15 := by first | exact o36 15 (by decide) | exact congrFun (f36 29 (by decide)) 15
      try have u36_9 : σ36 29 16 = σ7 29 16 := by first | exact o36 16 (by decide) | exact congrFun (f36 29 (by decide)) 16
      try have u36_10 : σ36 29 17 = σ7 29 17 := by first | exact o36 17 (by decide) | exact congrFun (f36 29 (by decide)) 17
      try have u36_11 : σ36 29 18 = σ7 29 18 := by first | exact o36 18 (by decide) | exact congrFun (f36 29 (by decide)) 18
      have xx := x36
      refine pe_goto (t := 99) d_M_take_39 ?_
      refine pe_rv d_M_take_99 ?_
      first | exact ⟨hB, (fun b hb => (f36 b (by simp at hb ⊢; try omega)).trans ((f7 b (by simp at hb ⊢; try omega)).trans (rfl))), (fun j hj => (o36 j (by simp at hj ⊢; try omega)).trans ((o7 j (by simp at hj ⊢; try omega)).trans (rfl))), xx⟩ | exact ⟨hB, (fun b hb => (f36 b (by simp at hb ⊢; try omega)).trans ((f7 b (by simp at hb ⊢; try omega)).trans (rfl))), (fun j hj => (o36 j (by simp at hj ⊢; try omega)).trans ((o7 j (by simp at hj ⊢; try omega)).trans (rfl))), pe_ME_g hM0 (by omega) (by omega) (by omega) ⟨by omega, by rw [show σ36 29 2 = σ 29 2 by omega]; exact hbg⟩ (by omega) ((f36 30 (by decide)).trans ((f7 30 (by decide)).trans (rfl))) ((f36 31 (by decide)).trans ((f7 31 (by decide)).trans (rfl))) ((f36 36 (by decide)).trans ((f7 36 (by decide)).trans (rfl))) ((f36 32 (by decide)).trans ((f7 32 (by decide)).trans (rfl))) ((f36 33 (by decide)).trans ((f7 33 (by decide)).trans (rfl))) ((f36 34 (by decide)).trans ((f7 34 (by decide)).trans (rfl))) ((f36 35 (by decide)).trans ((f7 35 (by decide)).trans (rfl))), ⟨by omega, by omega, by omega, by omega, by omega, by omega, by omega⟩⟩
  · skip
    refine pe_aload_n d_M_take_17 rfl ?_
    refine pe_iload_n d_M_take_18 rfl ?_
    refine pe_iload_n d_M_take_19 rfl ?_
    refine pe_v2v d_M_take_20 c_M_206 i_M_within s_M_within rfl rfl (t_M_within hB (pe_ME_g hM0 (by omega) (by omega) (by omega) ⟨by omega, by rw [show σ7 29 2 = σ 29 2 by omega]; exact hbg⟩ (by omega) ((f7 30 (by decide)).trans (rfl)) ((f7 31 (by decide)).trans (rfl)) ((f7 36 (by decide)).trans (rfl)) ((f7 32 (by decide)).trans (rfl)) ((f7 33 (by decide)).trans (rfl)) ((f7 34 (by decide)).trans (rfl)) ((f7 35 (by decide)).trans (rfl))) ⟨by omega, by omega, by omega, by omega, by omega, by omega, by omega⟩ (by omega) (by first | exact hB _ _ | exact hB0 _ _ | exact hBt _ _ | exact ⟨by omega, by omega⟩) (by omega)) (fun σ20 hz20 => ?_)
    obtain ⟨hB, f20, o20, x20⟩ := hz20
    try have u20_0 : σ20 29 1 = σ7 29 1 := by first | exact o20 1 (by decide) | exact congrFun (f20 29 (by decide)) 1
    try have u20_1 : σ20 29 2 = σ7 29 2 := by first | exact o20 2 (by decide) | exact congrFun (f20 29 (by decide)) 2
    try have u20_2 : σ20 29 3 = σ7 29 3 := by first | exact o20 3 (by decide) | exact congrFun (f20 29 (by decide)) 3
    try have u20_3 : σ20 29 5 = σ7 29 5 := by first | exact o20 5 (by decide) | exact congrFun (f20 29 (by decide)) 5
    try have u20_4 : σ20 29 7 = σ7 29 7 := by first | exact o20 7 (by decide) | exact congrFun (f20 29 (by decide)) 7
    try have u20_5 : σ20 29 21 = σ7 29 21 := by first | exact o20 21 (by decide) | exact congrFun (f20 29 (by decide)) 21
    try have u20_6 : σ20 29 26 = σ7 29 26 := by first | exact o20 26 (by decide) | exact congrFun (f20 29 (by decide)) 26
    try have u20_7 : σ20 29 14 = σ7 29 14 := by first | exact o20 14 (by decide) | exact congrFun (f20 29 (by decide)) 14
    try have u20_8 : σ20 29 15 = σ7 29 15 := by first | exact o20 15 (by decide) | exact congrFun (f20 29 (by decide)) 15
    try have u20_9 : σ20 29 16 = σ7 29 16 := by first | exact o20 16 (by decide) | exact congrFun (f20 29 (by decide)) 16
    try have u20_10 : σ20 29 17 = σ7 29 17 := by first | exact o20 17 (by decide) | exact congrFun (f20 29 (by decide)) 17
    try have u20_11 : σ20 29 18 = σ7 29 18 := by first | exact o20 18 (by decide) | exact congrFun (f20 29 (by decide)) 18
    have xx := x20
    refine pe_goto (t := 99) d_M_take_23 ?_
    refine pe_rv d_M_take_99 ?_
    first | exact ⟨hB, (fun b hb => (f20 b (by simp at hb ⊢; try omega)).trans ((f7 b (by simp at hb ⊢; try omega)).trans (rfl))), (fun j hj => (o20 j (by simp at hj ⊢; try omega)).trans ((o7 j (by simp at hj ⊢; try omega)).trans (rfl))), xx⟩ | exact ⟨hB, (fun b hb => (f20 b (by simp at hb ⊢; try omega)).trans ((f7 b (by simp at hb ⊢; try omega)).trans (rfl))), (fun j hj => (o20 j (by simp at hj ⊢; try omega)).trans ((o7 j (by simp at hj ⊢; try omega)).trans (rfl))), pe_ME_g hM0 (by omega) (by omega) (by omega) ⟨by omega, by rw [show σ20 29 2 = σ 29 2 by omega]; exact hbg⟩ (by omega) ((f20 30 (by decide)).trans ((f7 30 (by decide)).trans (rfl))) ((f20 31 (by decide)).trans ((f7 31 (by decide)).trans (rfl))) ((f20 36 (by decide)).trans ((f7 36 (by decide)).trans (rfl))) ((f20 32 (by decide)).trans ((f7 32 (by decide)).trans (rfl))) ((f20 33 (by decide)).trans ((f7 33 (by decide)).trans (rfl))) ((f20 34 (by decide)).trans ((f7 34 (by decide)).trans (rfl))) ((f20 35 (by decide)).trans ((f7 35 (by decide)).trans (rfl))), ⟨by omega, by omega, by omega, by omega, by omega, by omega, by omega⟩⟩
theorem t_M_type {σ : pe_H} {w : Int64} {n : Int} (hB : pe_B σ) (hM : pe_MEs σ) (hK : pe_KI (σ 29)) (hco : 1 ≤ σ 29 21 ∧ σ 29 21 ≤ 24) (hn : pe_R n) : pe_M m_M_type [pe_r 29, pe_l w, pe_i n] σ (pe_qi (fun z σ' => pe_B σ' ∧ (∀ b, b ∉ [29, 30, 31, 32, 33, 34, 35, 36, 37, 38, 39] → σ' b = σ b) ∧ (∀ j, j ∉ ([1, 2, 3, 5, 6, 7, 13, 14, 15, 16, 17, 18, 19, 20, 26, 41] : List Int) → σ' 29 j = σ 29 j) ∧ (pe_MEs σ' ∧ pe_KI (σ' 29)))) := by
  refine pe_in0 (lv := [some (pe_r 29), some (pe_l w), none, some (pe_i n), none]) ?_
  have hB0 := hB
  have hM0 := hM
  obtain ⟨hl, A30, A31, A36, ⟨hcu, hbg⟩, hma, hcl, hcg, hch, N30, N31, N36⟩ := hM
  have hK0 := hK
  obtain ⟨k1, k2, k3, k4, k5, k6, k7⟩ := hK
  have J16 : ∀ x : Int × pe_H, (pe_B x.2 ∧ (∀ b, b ∉ [29, 30, 31, 32, 33, 34, 35, 36, 37, 38, 39] → x.2 b = σ b) ∧ (∀ j, j ∉ ([1, 2, 3, 5, 6, 7, 13, 14, 15, 16, 17, 18, 19, 20, 26, 41] : List Int) → x.2 29 j = σ 29 j) ∧ (pe_MEs x.2 ∧ pe_KI (x.2 29)) ∧ (0 ≤ x.1 ∧ x.1 ≤ n ∧ n ≤ 8)) → pe_G m_M_type 16 [some (pe_r 29), some (pe_l w), none, some (pe_i n), some (pe_i x.1)] [] x.2 (pe_qi (fun z σ' => pe_B σ' ∧ (∀ b, b ∉ [29, 30, 31, 32, 33, 34, 35, 36, 37, 38, 39] → σ' b = σ b) ∧ (∀ j, j ∉ ([1, 2, 3, 5, 6, 7, 13, 14, 15, 16, 17, 18, 19, 20, 26, 41] : List Int) → σ' 29 j = σ 29 j) ∧ (pe_MEs σ' ∧ pe_KI (σ' 29)))) := by
    refine pe_loop (fun x : Int × pe_H => (100 - x.1).toNat) _ _ ?_
    intro x hI ih
    obtain ⟨i, τ⟩ := x
    dsimp only at hI ⊢
    obtain ⟨hB, hfr, hX⟩ := hI
    obtain ⟨hor, hMK, hX⟩ := hX
    have w21 : τ 29 21 = σ 29 21 := hor 21 (by decide)
    have hBt := hB
    refine pe_iload d_M_type_16 rfl ?_
    refine pe_iload_n d_M_type_18 rfl ?_
    refine pe_icmp_ge (t := 44) d_M_type_19 (by first | exact hB _ _ | exact hB0 _ _ | exact hBt _ _ | exact ⟨by omega, by omega⟩) (by first | exact hB _ _ | exact hB0 _ _ | exact hBt _ _ | exact ⟨by omega, by omega⟩) (fun h19 => ?_) (fun h19 => ?_)
    · skip
      refine pe_aload_n d_M_type_44 rfl ?_
      refine pe_geti f_M_87 d_M_type_45 rfl rfl 1 rfl ?_
      refine pe_ri d_M_type_48 ?_
      exact ⟨hB, (fun b hb => hfr b (by simp at hb ⊢; try omega)), (fun j hj => hor j (by simp at hj ⊢; try omega)), hMK⟩
    · skip
      refine pe_aload_n d_M_type_22 rfl ?_
      refine pe_lload_n d_M_type_23 rfl ?_
      refine pe_bipush d_M_type_24 ?_
      refine pe_iload d_M_type_26 rfl ?_
      refine pe_imul d_M_type_28 ?_
      refine pe_lshr d_M_type_29 rfl ?_
      refine pe_ldc2 q_M_215 d_M_type_30 ?_
      refine pe_land d_M_type_33 ?_
      refine pe_l2i d_M_type_34 (Int32.ofInt_int64ToInt _).symm ?_
      have hby := pe_byte (w >>> ((Int32.ofInt (8 * i)).toInt64 &&& 63))
      refine pe_v1v d_M_type_35 c_M_217 i_M_take s_M_take rfl rfl (t_M_take hB hMK.1 hMK.2 (by omega) (by omega)) (fun σ35 hz35 => ?_)
      obtain ⟨hB, f35, o35, x35⟩ := hz35
      try have u35_0 : σ35 29 1 = τ 29 1 := by first | exact o35 1 (by decide) | exact congrFun (f35 29 (by decide)) 1
      try have u35_1 : σ35 29 2 = τ 29 2 := by first | exact o35 2 (by decide) | exact congrFun (f35 29 (by decide)) 2
      try have u35_2 : σ35 29 3 = τ 29 3 := by first | exact o35 3 (by decide) | exact congrFun (f35 29 (by decide)) 3
      try have u35_3 : σ35 29 5 = τ 29 5 := by first | exact o35 5 (by decide) | exact congrFun (f35 29 (by decide)) 5
      try have u35_4 : σ35 29 7 = τ 29 7 := by first | exact o35 7 (by decide) | exact congrFun (f35 29 (by decide)) 7
      try have u35_5 : σ35 29 21 = τ 29 21 := by first | exact o35 21 (by decide) | exact congrFun (f35 29 (by decide)) 21
      try have u35_6 : σ35 29 26 = τ 29 26 := by first | exact o35 26 (by decide) | exact congrFun (f35 29 (by decide)) 26
      try have u35_7 : σ35 29 14 = τ 29 14 := by first | exact o35 14 (by decide) | exact congrFun (f35 29 (by decide)) 14
      try have u35_8 : σ35 29 15 = τ 29 15 := by first | exact o35 15 (by decide) | exact congrFun (f35 29 (by decide)) 15
      try have u35_9 : σ35 29 16 = τ 29 16 := by first | exact o35 16 (by decide) | exact congrFun (f35 29 (by decide)) 16
      try have u35_10 : σ35 29 17 = τ 29 17 := by first | exact o35 17 (by decide) | exact congrFun (f35 29 (by decide)) 17
      try have u35_11 : σ35 29 18 = τ 29 18 := by first | exact o35 18 (by decide) | exact congrFun (f35 29 (by decide)) 18
      refine pe_iinc d_M_type_38 rfl ?_
      refine pe_goto (t := 16) d_M_type_41 ?_
      exact ih (_, _) ⟨hB, (fun b hb => (f35 b (by simp at hb ⊢; try omega)).trans (hfr b (by simp at hb ⊢; try omega))), (fun j hj => (o35 j (by simp at hj ⊢; try omega)).trans (hor j (by simp at hj ⊢; try omega))), x35, by (try dsimp only); omega⟩ (by (try dsimp only); omega)
  refine pe_iload_n d_M_type_0 rfl ?_
  refine pe_iconst d_M_type_1 ?_
  refine pe_icmp_lt (t := 11) d_M_type_2 (by first | exact hB _ _ | exact hB0 _ _ | exact hBt _ _ | exact ⟨by omega, by omega⟩) (by first | exact hB _ _ | exact hB0 _ _ | exact hBt _ _ | exact ⟨by omega, by omega⟩) (fun h2 => ?_) (fun h2 => ?_)
  · skip
    refine pe_iconst d_M_type_11 ?_
    refine pe_ri d_M_type_12 ?_
    exact ⟨hB, (fun b hb => rfl), (fun j hj => rfl), hM0, hK0⟩
  · skip
    refine pe_iload_n d_M_type_5 rfl ?_
    refine pe_bipush d_M_type_6 ?_
    refine pe_icmp_le (t := 13) d_M_type_8 (by first | exact hB _ _ | exact hB0 _ _ | exact hBt _ _ | exact ⟨by omega, by omega⟩) (by first | exact hB _ _ | exact hB0 _ _ | exact hBt _ _ | exact ⟨by omega, by omega⟩) (fun h8 => ?_) (fun h8 => ?_)
    · skip
      refine pe_iconst d_M_type_13 ?_
      refine pe_istore d_M_type_14 ?_
      exact J16 (_, _) ⟨hB, (fun b hb => rfl), (fun j hj => rfl), ⟨hM0, hK0⟩, by (try dsimp only); omega⟩
    · skip
      refine pe_iconst d_M_type_11 ?_
      refine pe_ri d_M_type_12 ?_
      exact ⟨hB, (fun b hb => rfl), (fun j hj => rfl), hM0, hK0⟩
theorem t_M_tick {σ : pe_H} (hB : pe_B σ) (hM : pe_MEs σ) (hK : pe_KI (σ 29)) (hco : 1 ≤ σ 29 21 ∧ σ 29 21 ≤ 24) : pe_M m_M_tick [pe_r 29] σ (pe_qi (fun z σ' => pe_B σ' ∧ (∀ b, b ∉ [29, 30, 31, 32, 33, 34, 35, 36, 37, 38, 39] → σ' b = σ b) ∧ (∀ j, j ∉ ([1, 2, 3, 5, 6, 7, 13, 14, 15, 16, 17, 18, 19, 20, 26, 41] : List Int) → σ' 29 j = σ 29 j) ∧ (pe_MEs σ' ∧ pe_KI (σ' 29)))) := by
  refine pe_in0 (lv := [some (pe_r 29)]) ?_
  have hB0 := hB
  have hM0 := hM
  obtain ⟨hl, A30, A31, A36, ⟨hcu, hbg⟩, hma, hcl, hcg, hch, N30, N31, N36⟩ := hM
  have hK0 := hK
  obtain ⟨k1, k2, k3, k4, k5, k6, k7⟩ := hK
  refine pe_aload_n d_M_tick_0 rfl ?_
  refine pe_geti f_M_184 d_M_tick_1 rfl rfl 15 rfl ?_
  refine pe_if_le (t := 21) d_M_tick_4 (by first | exact hB _ _ | exact hB0 _ _ | exact hBt _ _ | exact ⟨by omega, by omega⟩) (fun h4 => ?_) (fun h4 => ?_)
  · skip
    refine pe_aload_n d_M_tick_21 rfl ?_
    refine pe_geti f_M_181 d_M_tick_22 rfl rfl 13 rfl ?_
    refine pe_iconst d_M_tick_25 ?_
    refine pe_icmp_ne (t := 41) d_M_tick_26 (by first | exact hB _ _ | exact hB0 _ _ | exact hBt _ _ | exact ⟨by omega, by omega⟩) (by first | exact hB _ _ | exact hB0 _ _ | exact hBt _ _ | exact ⟨by omega, by omega⟩) (fun h26 => ?_) (fun h26 => ?_)
    · skip
      refine pe_aload_n d_M_tick_41 rfl ?_
      refine pe_geti f_M_181 d_M_tick_42 rfl rfl 13 rfl ?_
      refine pe_iconst d_M_tick_45 ?_
      refine pe_icmp_ne (t := 54) d_M_tick_46 (by first | exact hB _ _ | exact hB0 _ _ | exact hBt _ _ | exact ⟨by omega, by omega⟩) (by first | exact hB _ _ | exact hB0 _ _ | exact hBt _ _ | exact ⟨by omega, by omega⟩) (fun h46 => ?_) (fun h46 => ?_)
      · skip
        refine pe_aload_n d_M_tick_54 rfl ?_
        refine pe_geti f_M_87 d_M_tick_55 rfl rfl 1 rfl ?_
        refine pe_ri d_M_tick_58 ?_
        first | exact ⟨hB, (fun b hb => rfl), (fun j hj => rfl), xx⟩ | exact ⟨hB, (fun b hb => rfl), (fun j hj => rfl), pe_ME_g hM0 (by omega) (by omega) (by omega) ⟨by omega, by rw [show σ 29 2 = σ 29 2 by omega]; exact hbg⟩ (by omega) (rfl) (rfl) (rfl) (rfl) (rfl) (rfl) (rfl), ⟨by omega, by omega, by omega, by omega, by omega, by omega, by omega⟩⟩
      · skip
        refine pe_aload_n d_M_tick_49 rfl ?_
        refine pe_iconst d_M_tick_50 ?_
        refine pe_putiT f_M_181 g_11_13 d_M_tick_51 rfl rfl 13 rfl hB (by first | exact hB _ _ | exact hB0 _ _ | exact hBt _ _ | exact ⟨by omega, by omega⟩) (fun σ51 hB e51 o51 f51 => ?_)
        try have u51_0 : σ51 29 1 = σ 29 1 := by first | exact o51 1 (by decide) | exact congrFun (f51 29 (by decide)) 1
        try have u51_1 : σ51 29 2 = σ 29 2 := by first | exact o51 2 (by decide) | exact congrFun (f51 29 (by decide)) 2
        try have u51_2 : σ51 29 3 = σ 29 3 := by first | exact o51 3 (by decide) | exact congrFun (f51 29 (by decide)) 3
        try have u51_3 : σ51 29 5 = σ 29 5 := by first | exact o51 5 (by decide) | exact congrFun (f51 29 (by decide)) 5
        try have u51_4 : σ51 29 7 = σ 29 7 := by first | exact o51 7 (by decide) | exact congrFun (f51 29 (by decide)) 7
        try have u51_5 : σ51 29 21 = σ 29 21 := by first | exact o51 21 (by decide) | exact congrFun (f51 29 (by decide)) 21
        try have u51_6 : σ51 29 26 = σ 29 26 := by first | exact o51 26 (by decide) | exact congrFun (f51 29 (by decide)) 26
        try have u51_7 : σ51 29 14 = σ 29 14 := by first | exact o51 14 (by decide) | exact congrFun (f51 29 (by decide)) 14
        try have u51_8 : σ51 29 15 = σ 29 15 := by first | exact o51 15 (by decide) | exact congrFun (f51 29 (by decide)) 15
        try have u51_9 : σ51 29 16 = σ 29 16 := by first | exact o51 16 (by decide) | exact congrFun (f51 29 (by decide)) 16
        try have u51_10 : σ51 29 17 = σ 29 17 := by first | exact o51 17 (by decide) | exact congrFun (f51 29 (by decide)) 17
        try have u51_11 : σ51 29 18 = σ 29 18 := by first | exact o51 18 (by decide) | exact congrFun (f51 29 (by decide)) 18
        refine pe_aload_n d_M_tick_54 rfl ?_
        refine pe_geti f_M_87 d_M_tick_55 rfl rfl 1 rfl ?_
        refine pe_ri d_M_tick_58 ?_
        first | exact ⟨hB, (fun b hb => (f51 b (by simp at hb ⊢; try omega)).trans (rfl)), (fun j hj => (o51 j (by simp at hj ⊢; try omega)).trans (rfl)), xx⟩ | exact ⟨hB, (fun b hb => (f51 b (by simp at hb ⊢; try omega)).trans (rfl)), (fun j hj => (o51 j (by simp at hj ⊢; try omega)).trans (rfl)), pe_ME_g hM0 (by omega) (by omega) (by omega) ⟨by omega, by rw [show σ51 29 2 = σ 29 2 by omega]; exact hbg⟩ (by omega) ((f51 30 (by decide)).trans (rfl)) ((f51 31 (by decide)).trans (rfl)) ((f51 36 (by decide)).trans (rfl)) ((f51 32 (by decide)).trans (rfl)) ((f51 33 (by decide)).trans (rfl)) ((f51 34 (by decide)).trans (rfl)) ((f51 35 (by decide)).trans (rfl)), ⟨by omega, by omega, by omega, by omega, by omega, by omega, by omega⟩⟩
    · skip
      refine pe_aload_n d_M_tick_29 rfl ?_
      refine pe_iconst d_M_tick_30 ?_
      refine pe_putiT f_M_181 g_11_13 d_M_tick_31 rfl rfl 13 rfl hB (by first | exact hB _ _ | exact hB0 _ _ | exact hBt _ _ | exact ⟨by omega, by omega⟩) (fun σ31 hB e31 o31 f31 => ?_)
      try have u31_0 : σ31 29 1 = σ 29 1 := by first | exact o31 1 (by decide) | exact congrFun (f31 29 (by decide)) 1
      try have u31_1 : σ31 29 2 = σ 29 2 := by first | exact o31 2 (by decide) | exact congrFun (f31 29 (by decide)) 2
      try have u31_2 : σ31 29 3 = σ 29 3 := by first | exact o31 3 (by decide) | exact congrFun (f31 29 (by decide)) 3
      try have u31_3 : σ31 29 5 = σ 29 5 := by first | exact o31 5 (by decide) | exact congrFun (f31 29 (by decide)) 5
      try have u31_4 : σ31 29 7 = σ 29 7 := by first | exact o31 7 (by decide) | exact congrFun (f31 29 (by decide)) 7
      try have u31_5 : σ31 29 21 = σ 29 21 := by first | exact o31 21 (by decide) | exact congrFun (f31 29 (by decide)) 21
      try have u31_6 : σ31 29 26 = σ 29 26 := by first | exact o31 26 (by decide) | exact congrFun (f31 29 (by decide)) 26
      try have u31_7 : σ31 29 14 = σ 29 14 := by first | exact o31 14 (by decide) | exact congrFun (f31 29 (by decide)) 14
      try have u31_8 : σ31 29 15 = σ 29 15 := by first | exact o31 15 (by decide) | exact congrFun (f31 29 (by decide)) 15
      try have u31_9 : σ31 29 16 = σ 29 16 := by first | exact o31 16 (by decide) | exact congrFun (f31 29 (by decide)) 16
      try have u31_10 : σ31 29 17 = σ 29 17 := by first | exact o31 17 (by decide) | exact congrFun (f31 29 (by decide)) 17
      try have u31_11 : σ31 29 18 = σ 29 18 := by first | exact o31 18 (by decide) | exact congrFun (f31 29 (by decide)) 18
      refine pe_aload_n d_M_tick_34 rfl ?_
      refine pe_v0v d_M_tick_35 c_M_212 i_M_escapeKey s_M_escapeKey rfl rfl (t_M_escapeKey hB (pe_ME_g hM0 (by omega) (by omega) (by omega) ⟨by omega, by rw [show σ31 29 2 = σ 29 2 by omega]; exact hbg⟩ (by omega) ((f31 30 (by decide)).trans (rfl)) ((f31 31 (by decide)).trans (rfl)) ((f31 36 (by decide)).trans (rfl)) ((f31 32 (by decide)).trans (rfl)) ((f31 33 (by decide)).trans (rfl)) ((f31 34 (by decide)).trans (rfl)) ((f31 35 (by decide)).trans (rfl)))) (fun σ35 hz35 => ?_)
      obtain ⟨hB, f35, o35, x35⟩ := hz35
      try have u35_0 : σ35 29 1 = σ31 29 1 := by first | exact o35 1 (by decide) | exact congrFun (f35 29 (by decide)) 1
      try have u35_1 : σ35 29 2 = σ31 29 2 := by first | exact o35 2 (by decide) | exact congrFun (f35 29 (by decide)) 2
      try have u35_2 : σ35 29 3 = σ31 29 3 := by first | exact o35 3 (by decide) | exact congrFun (f35 29 (by decide)) 3
      try have u35_3 : σ35 29 5 = σ31 29 5 := by first | exact o35 5 (by decide) | exact congrFun (f35 29 (by decide)) 5
      try have u35_4 : σ35 29 7 = σ31 29 7 := by first | exact o35 7 (by decide) | exact congrFun (f35 29 (by decide)) 7
      try have u35_5 : σ35 29 21 = σ31 29 21 := by first | exact o35 21 (by decide) | exact congrFun (f35 29 (by decide)) 21
      try have u35_6 : σ35 29 26 = σ31 29 26 := by first | exact o35 26 (by decide) | exact congrFun (f35 29 (by decide)) 26
      try have u35_7 : σ35 29 14 = σ31 29 14 := by first | exact o35 14 (by decide) | exact congrFun (f35 29 (by decide)) 14
      try have u35_8 : σ35 29 15 = σ31 29 15 := by first | exact o35 15 (by decide) | exact congrFun (f35 29 (by decide)) 15
      try have u35_9 : σ35 29 16 = σ31 29 16 := by first | exact o35 16 (by decide) | exact congrFun (f35 29 (by decide)) 16
      try have u35_10 : σ35 29 17 = σ31 29 17 := by first | exact o35 17 (by decide) | exact congrFun (f35 29 (by decide)) 17
      try have u35_11 : σ35 29 18 = σ31 29 18 := by first | exact o35 18 (by decide) | exact congrFun (f35 29 (by decide)) 18
      have xx : pe_MEs σ35 ∧ pe_KI (σ35 29) := ⟨x35, ⟨by omega, by omega, by omega, by omega, by omega, by omega, by omega⟩⟩
      refine pe_goto (t := 54) d_M_tick_38 ?_
      refine pe_aload_n d_M_tick_54 rfl ?_
      refine pe_geti f_M_87 d_M_tick_55 rfl rfl 1 rfl ?_
      refine pe_ri d_M_tick_58 ?_
      first | exact ⟨hB, (fun b hb => (f35 b (by simp at hb ⊢; try omega)).trans ((f31 b (by simp at hb ⊢; try omega)).trans (rfl))), (fun j hj => (o35 j (by simp at hj ⊢; try omega)).trans ((o31 j (by simp at hj ⊢; try omega)).trans (rfl))), xx⟩ | exact ⟨hB, (fun b hb => (f35 b (by simp at hb ⊢; try omega)).trans ((f31 b (by simp at hb ⊢; try omega)).trans (rfl))), (fun j hj => (o35 j (by simp at hj ⊢; try omega)).trans ((o31 j (by simp at hj ⊢; try omega)).trans (rfl))), pe_ME_g hM0 (by omega) (by omega) (by omega) ⟨by omega, by rw [show σ35 29 2 = σ 29 2 by omega]; exact hbg⟩ (by omega) ((f35 30 (by decide)).trans ((f31 30 (by decide)).trans (rfl))) ((f35 31 (by decide)).trans ((f31 31 (by decide)).trans (rfl))) ((f35 36 (by decide)).trans ((f31 36 (by decide)).trans (rfl))) ((f35 32 (by decide)).trans ((f31 32 (by decide)).trans (rfl))) ((f35 33 (by decide)).trans ((f31 33 (by decide)).trans (rfl))) ((f35 34 (by decide)).trans ((f31 34 (by decide)).trans (rfl))) ((f35 35 (by decide)).trans ((f31 35 (by decide)).trans (rfl))), ⟨by omega, by omega, by omega, by omega, by omega, by omega, by omega⟩⟩
  · skip
    refine pe_aload_n d_M_tick_7 rfl ?_
    refine pe_iconst d_M_tick_8 ?_
    refine pe_putiT f_M_184 g_11_15 d_M_tick_9 rfl rfl 15 rfl hB (by first | exact hB _ _ | exact hB0 _ _ | exact hBt _ _ | exact ⟨by omega, by omega⟩) (fun σ9 hB e9 o9 f9 => ?_)
    try have u9_0 : σ9 29 1 = σ 29 1 := by first | exact o9 1 (by decide) | exact congrFun (f9 29 (by decide)) 1
    try have u9_1 : σ9 29 2 = σ 29 2 := by first | exact o9 2 (by decide) | exact congrFun (f9 29 (by decide)) 2
    try have u9_2 : σ9 29 3 = σ 29 3 := by first | exact o9 3 (by decide) | exact congrFun (f9 29 (by decide)) 3
    try have u9_3 : σ9 29 5 = σ 29 5 := by first | exact o9 5 (by decide) | exact congrFun (f9 29 (by decide)) 5
    try have u9_4 : σ9 29 7 = σ 29 7 := by first | exact o9 7 (by decide) | exact congrFun (f9 29 (by decide)) 7
    try have u9_5 : σ9 29 21 = σ 29 21 := by first | exact o9 21 (by decide) | exact congrFun (f9 29 (by decide)) 21
    try have u9_6 : σ9 29 26 = σ 29 26 := by first | exact o9 26 (by decide) | exact congrFun (f9 29 (by decide)) 26
    try have u9_7 : σ9 29 14 = σ 29 14 := by first | exact o9 14 (by decide) | exact congrFun (f9 29 (by decide)) 14
    try have u9_8 : σ9 29 15 = σ 29 15 := by first | exact o9 15 (by decide) | exact congrFun (f9 29 (by decide)) 15
    try have u9_9 : σ9 29 16 = σ 29 16 := by first | exact o9 16 (by decide) | exact congrFun (f9 29 (by decide)) 16
    try have u9_10 : σ9 29 17 = σ 29 17 := by first | exact o9 17 (by decide) | exact congrFun (f9 29 (by decide)) 17
    try have u9_11 : σ9 29 18 = σ 29 18 := by first | exact o9 18 (by decide) | exact congrFun (f9 29 (by decide)) 18
    refine pe_aload_n d_M_tick_12 rfl ?_
    refine pe_ldc q_M_196 d_M_tick_13 (z := 65533) rfl ?_
    refine pe_v1v d_M_tick_15 c_M_144 i_M_character s_M_character rfl rfl (t_M_character hB (pe_ME_g hM0 (by omega) (by omega) (by omega) ⟨by omega, by rw [show σ9 29 2 = σ 29 2 by omega]; exact hbg⟩ (by omega) ((f9 30 (by decide)).trans (rfl)) ((f9 31 (by decide)).trans (rfl)) ((f9 36 (by decide)).trans (rfl)) ((f9 32 (by decide)).trans (rfl)) ((f9 33 (by decide)).trans (rfl)) ((f9 34 (by decide)).trans (rfl)) ((f9 35 (by decide)).trans (rfl))) (by omega)) (fun σ15 hz15 => ?_)
    obtain ⟨hB, f15, o15, x15⟩ := hz15
    try have u15_0 : σ15 29 1 = σ9 29 1 := by first | exact o15 1 (by decide) | exact congrFun (f15 29 (by decide)) 1
    try have u15_1 : σ15 29 2 = σ9 29 2 := by first | exact o15 2 (by decide) | exact congrFun (f15 29 (by decide)) 2
    try have u15_2 : σ15 29 3 = σ9 29 3 := by first | exact o15 3 (by decide) | exact congrFun (f15 29 (by decide)) 3
    try have u15_3 : σ15 29 5 = σ9 29 5 := by first | exact o15 5 (by decide) | exact congrFun (f15 29 (by decide)) 5
    try have u15_4 : σ15 29 7 = σ9 29 7 := by first | exact o15 7 (by decide) | exact congrFun (f15 29 (by decide)) 7
    try have u15_5 : σ15 29 21 = σ9 29 21 := by first | exact o15 21 (by decide) | exact congrFun (f15 29 (by decide)) 21
    try have u15_6 : σ15 29 26 = σ9 29 26 := by first | exact o15 26 (by decide) | exact congrFun (f15 29 (by decide)) 26
    try have u15_7 : σ15 29 14 = σ9 29 14 := by first | exact o15 14 (by decide) | exact congrFun (f15 29 (by decide)) 14
    try have u15_8 : σ15 29 15 = σ9 29 15 := by first | exact o15 15 (by decide) | exact congrFun (f15 29 (by decide)) 15
    try have u15_9 : σ15 29 16 = σ9 29 16 := by first | exact o15 16 (by decide) | exact congrFun (f15 29 (by decide)) 16
    try have u15_10 : σ15 29 17 = σ9 29 17 := by first | exact o15 17 (by decide) | exact congrFun (f15 29 (by decide)) 17
    try have u15_11 : σ15 29 18 = σ9 29 18 := by first | exact o15 18 (by decide) | exact congrFun (f15 29 (by decide)) 18
    have xx : pe_MEs σ15 ∧ pe_KI (σ15 29) := ⟨x15, ⟨by omega, by omega, by omega, by omega, by omega, by omega, by omega⟩⟩
    refine pe_goto (t := 54) d_M_tick_18 ?_
    refine pe_aload_n d_M_tick_54 rfl ?_
    refine pe_geti f_M_87 d_M_tick_55 rfl rfl 1 rfl ?_
    refine pe_ri d_M_tick_58 ?_
    first | exact ⟨hB, (fun b hb => (f15 b (by simp at hb ⊢; try omega)).trans ((f9 b (by simp at hb ⊢; try omega)).trans (rfl))), (fun j hj => (o15 j (by simp at hj ⊢; try omega)).trans ((o9 j (by simp at hj ⊢; try omega)).trans (rfl))), xx⟩ | exact ⟨hB, (fun b hb => (f15 b (by simp at hb ⊢; try omega)).trans ((f9 b (by simp at hb ⊢; try omega)).trans (rfl))), (fun j hj => (o15 j (by simp at hj ⊢; try omega)).trans ((o9 j (by simp at hj ⊢; try omega)).trans (rfl))), pe_ME_g hM0 (by omega) (by omega) (by omega) ⟨by omega, by rw [show σ15 29 2 = σ 29 2 by omega]; exact hbg⟩ (by omega) ((f15 30 (by decide)).trans ((f9 30 (by decide)).trans (rfl))) ((f15 31 (by decide)).trans ((f9 31 (by decide)).trans (rfl))) ((f15 36 (by decide)).trans ((f9 36 (by decide)).trans (rfl))) ((f15 32 (by decide)).trans ((f9 32 (by decide)).trans (rfl))) ((f15 33 (by decide)).trans ((f9 33 (by decide)).trans (rfl))) ((f15 34 (by decide)).trans ((f9 34 (by decide)).trans (rfl))) ((f15 35 (by decide)).trans ((f9 35 (by decide)).trans (rfl))), ⟨by omega, by omega, by omega, by omega, by omega, by omega, by omega⟩⟩
