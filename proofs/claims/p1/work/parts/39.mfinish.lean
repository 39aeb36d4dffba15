set_option maxHeartbeats 2000000 in
theorem t_M_finish {σ : pe_H} {k : Int} (hB : pe_B σ) (hM : pe_MEs σ) (hK : pe_KI (σ 29)) (hco : 1 ≤ σ 29 21 ∧ σ 29 21 ≤ 24) (hk : 0 ≤ k ∧ k ≤ 255) : pe_M m_M_finish [pe_r 29, pe_i k] σ (pe_qv (fun σ' => pe_B σ' ∧ (∀ b, b ∉ [29, 30, 31, 32, 33, 34, 35, 36, 37, 38, 39] → σ' b = σ b) ∧ (∀ j, j ∉ ([1, 2, 3, 5, 6, 7, 13, 14, 15, 16, 17, 18, 19, 20, 26, 41] : List Int) → σ' 29 j = σ 29 j) ∧ (pe_MEs σ' ∧ pe_KI (σ' 29)))) := by
  refine pe_in0 (lv := [some (pe_r 29), some (pe_i k), none, none]) ?_
  have hB0 := hB
  have hM0 := hM
  obtain ⟨hl, A30, A31, A36, ⟨hcu, hbg⟩, hma, hcl, hcg, hch, N30, N31, N36⟩ := hM
  have hK0 := hK
  obtain ⟨k1, k2, k3, k4, k5, k6, k7⟩ := hK
  have J259 : ∀ x : Int × Int × pe_H, (pe_B x.2.2 ∧ (∀ b, b ∉ [29, 30, 31, 32, 33, 34, 35, 36] → x.2.2 b = σ b) ∧ (∀ j, j ∉ ([1, 2, 3, 5, 6, 7] : List Int) → x.2.2 29 j = σ 29 j) ∧ pe_MEs x.2.2) → pe_G m_M_finish 259 [some (pe_r 29), some (pe_i k), some (pe_i x.1), some (pe_i x.2.1)] [] x.2.2 (pe_qv (fun σ' => pe_B σ' ∧ (∀ b, b ∉ [29, 30, 31, 32, 33, 34, 35, 36, 37, 38, 39] → σ' b = σ b) ∧ (∀ j, j ∉ ([1, 2, 3, 5, 6, 7, 13, 14, 15, 16, 17, 18, 19, 20, 26, 41] : List Int) → σ' 29 j = σ 29 j) ∧ (pe_MEs σ' ∧ pe_KI (σ' 29)))) := by
    intro x hI
    obtain ⟨x2, x3, τ⟩ := x
    dsimp only at hI ⊢
    obtain ⟨hB, hfr, hor, hM1⟩ := hI
    have hM2 := hM1
    obtain ⟨hl, A30, A31, A36, ⟨hcu, hbg⟩, hma, hcl, hcg, hch, _, _, _⟩ := hM1
    have w14 : τ 29 14 = σ 29 14 := hor 14 (by decide)
    have w15 : τ 29 15 = σ 29 15 := hor 15 (by decide)
    have w16 : τ 29 16 = σ 29 16 := hor 16 (by decide)
    have w17 : τ 29 17 = σ 29 17 := hor 17 (by decide)
    have w18 : τ 29 18 = σ 29 18 := hor 18 (by decide)
    have w21 : τ 29 21 = σ 29 21 := hor 21 (by decide)
    have w19 : τ 29 19 = σ 29 19 := hor 19 (by decide)
    have hBt := hB
    refine pe_iload_n d_M_finish_259 rfl ?_
    refine pe_bipush d_M_finish_260 ?_
    refine pe_icmp_ne (t := 292) d_M_finish_262 (by first | exact hB _ _ | exact hB0 _ _ | exact hBt _ _ | exact ⟨by omega, by omega⟩) (by first | exact hB _ _ | exact hB0 _ _ | exact hBt _ _ | exact ⟨by omega, by omega⟩) (fun h262 => ?_) (fun h262 => ?_)
    · skip
      refine pe_rv d_M_finish_292 ?_
      first | exact ⟨hB, (fun b hb => hfr b (by simp at hb ⊢; try omega)), (fun j hj => hor j (by simp at hj ⊢; try omega)), hM2, ⟨by omega, by omega, by omega, by omega, by omega, by omega, by omega⟩⟩ | exact ⟨hB, (fun b hb => hfr b (by simp at hb ⊢; try omega)), (fun j hj => hor j (by simp at hj ⊢; try omega)), pe_ME_g hM2 (by (try dsimp only); omega) (by (try dsimp only); omega) (by (try dsimp only); omega) ⟨by omega, by rw [show τ 29 2 = τ 29 2 by omega]; exact hbg⟩ (by (try dsimp only); omega) (rfl) (rfl) (rfl) (rfl) (rfl) (rfl) (rfl), ⟨by omega, by omega, by omega, by omega, by omega, by omega, by omega⟩⟩
    · skip
      refine pe_aload_n d_M_finish_265 rfl ?_
      refine pe_geti f_M_168 d_M_finish_266 rfl rfl 14 rfl ?_
      refine pe_iconst d_M_finish_269 ?_
      refine pe_icmp_le (t := 292) d_M_finish_270 (by first | exact hB _ _ | exact hB0 _ _ | exact hBt _ _ | exact ⟨by omega, by omega⟩) (by first | exact hB _ _ | exact hB0 _ _ | exact hBt _ _ | exact ⟨by omega, by omega⟩) (fun h270 => ?_) (fun h270 => ?_)
      · skip
        refine pe_rv d_M_finish_292 ?_
        first | exact ⟨hB, (fun b hb => hfr b (by simp at hb ⊢; try omega)), (fun j hj => hor j (by simp at hj ⊢; try omega)), hM2, ⟨by omega, by omega, by omega, by omega, by omega, by omega, by omega⟩⟩ | exact ⟨hB, (fun b hb => hfr b (by simp at hb ⊢; try omega)), (fun j hj => hor j (by simp at hj ⊢; try omega)), pe_ME_g hM2 (by (try dsimp only); omega) (by (try dsimp only); omega) (by (try dsimp only); omega) ⟨by omega, by rw [show τ 29 2 = τ 29 2 by omega]; exact hbg⟩ (by (try dsimp only); omega) (rfl) (rfl) (rfl) (rfl) (rfl) (rfl) (rfl), ⟨by omega, by omega, by omega, by omega, by omega, by omega, by omega⟩⟩
      · skip
        refine pe_aload_n d_M_finish_273 rfl ?_
        refine pe_aload_n d_M_finish_274 rfl ?_
        refine pe_geti f_M_168 d_M_finish_275 rfl rfl 14 rfl ?_
        refine pe_sipush d_M_finish_278 ?_
        refine pe_icmp_ne (t := 288) d_M_finish_281 (by first | exact hB _ _ | exact hB0 _ _ | exact hBt _ _ | exact ⟨by omega, by omega⟩) (by first | exact hB _ _ | exact hB0 _ _ | exact hBt _ _ | exact ⟨by omega, by omega⟩) (fun h281 => ?_) (fun h281 => ?_)
        · skip
          refine pe_iconst d_M_finish_288 ?_
          refine pe_putzT f_M_147 g_11_19 d_M_finish_289 rfl rfl (by first | exact Or.inl rfl | exact Or.inr rfl | omega) 19 rfl hB (fun σ289 hB e289 o289 f289 => ?_)
          try have u289_0 : σ289 29 1 = τ 29 1 := by first | exact o289 1 (by decide) | exact congrFun (f289 29 (by decide)) 1
          try have u289_1 : σ289 29 2 = τ 29 2 := by first | exact o289 2 (by decide) | exact congrFun (f289 29 (by decide)) 2
          try have u289_2 : σ289 29 3 = τ 29 3 := by first | exact o289 3 (by decide) | exact congrFun (f289 29 (by decide)) 3
          try have u289_3 : σ289 29 5 = τ 29 5 := by first | exact o289 5 (by decide) | exact congrFun (f289 29 (by decide)) 5
          try have u289_4 : σ289 29 7 = τ 29 7 := by first | exact o289 7 (by decide) | exact congrFun (f289 29 (by decide)) 7
          try have u289_5 : σ289 29 21 = τ 29 21 := by first | exact o289 21 (by decide) | exact congrFun (f289 29 (by decide)) 21
          try have u289_6 : σ289 29 26 = τ 29 26 := by first | exact o289 26 (by decide) | exact congrFun (f289 29 (by decide)) 26
          try have u289_7 : σ289 29 14 = τ 29 14 := by first | exact o289 14 (by decide) | exact congrFun (f289 29 (by decide)) 14
          try have u289_8 : σ289 29 15 = τ 29 15 := by first | exact o289 15 (by decide) | exact congrFun (f289 29 (by decide)) 15
          try have u289_9 : σ289 29 16 = τ 29 16 := by first | exact o289 16 (by decide) | exact congrFun (f289 29 (by decide)) 16
          try have u289_10 : σ289 29 17 = τ 29 17 := by first | exact o289 17 (by decide) | exact congrFun (f289 29 (by decide)) 17
          try have u289_11 : σ289 29 18 = τ 29 18 := by first | exact o289 18 (by decide) | exact congrFun (f289 29 (by decide)) 18
          refine pe_rv d_M_finish_292 ?_
          first | exact ⟨hB, (fun b hb => (f289 b (by simp at hb ⊢; try omega)).trans (hfr b (by simp at hb ⊢; try omega))), (fun j hj => (o289 j (by simp at hj ⊢; try omega)).trans (hor j (by simp at hj ⊢; try omega))), hM2, ⟨by omega, by omega, by omega, by omega, by omega, by omega, by omega⟩⟩ | exact ⟨hB, (fun b hb => (f289 b (by simp at hb ⊢; try omega)).trans (hfr b (by simp at hb ⊢; try omega))), (fun j hj => (o289 j (by simp at hj ⊢; try omega)).trans (hor j (by simp at hj ⊢; try omega))), pe_ME_g hM2 (by (try dsimp only); omega) (by (try dsimp only); omega) (by (try dsimp only); omega) ⟨by omega, by rw [show σ289 29 2 = τ 29 2 by omega]; exact hbg⟩ (by (try dsimp only); omega) ((f289 30 (by decide)).trans (rfl)) ((f289 31 (by decide)).trans (rfl)) ((f289 36 (by decide)).trans (rfl)) ((f289 32 (by decide)).trans (rfl)) ((f289 33 (by decide)).trans (rfl)) ((f289 34 (by decide)).trans (rfl)) ((f289 35 (by decide)).trans (rfl)), ⟨by omega, by omega, by omega, by omega, by omega, by omega, by omega⟩⟩
        · skip
          refine pe_iconst d_M_finish_284 ?_
          refine pe_goto (t := 289) d_M_finish_285 ?_
          refine pe_putzT f_M_147 g_11_19 d_M_finish_289 rfl rfl (by first | exact Or.inl rfl | exact Or.inr rfl | omega) 19 rfl hB (fun σ289 hB e289 o289 f289 => ?_)
          try have u289_0 : σ289 29 1 = τ 29 1 := by first | exact o289 1 (by decide) | exact congrFun (f289 29 (by decide)) 1
          try have u289_1 : σ289 29 2 = τ 29 2 := by first | exact o289 2 (by decide) | exact congrFun (f289 29 (by decide)) 2
          try have u289_2 : σ289 29 3 = τ 29 3 := by first | exact o289 3 (by decide) | exact congrFun (f289 29 (by decide)) 3
          try have u289_3 : σ289 29 5 = τ 29 5 := by first | exact o289 5 (by decide) | exact congrFun (f289 29 (by decide)) 5
          try have u289_4 : σ289 29 7 = τ 29 7 := by first | exact o289 7 (by decide) | exact congrFun (f289 29 (by decide)) 7
          try have u289_5 : σ289 29 21 = τ 29 21 := by first | exact o289 21 (by decide) | exact congrFun (f289 29 (by decide)) 21
          try have u289_6 : σ289 29 26 = τ 29 26 := by first | exact o289 26 (by decide) | exact congrFun (f289 29 (by decide)) 26
          try have u289_7 : σ289 29 14 = τ 29 14 := by first | exact o289 14 (by decide) | exact congrFun (f289 29 (by decide)) 14
          try have u289_8 : σ289 29 15 = τ 29 15 := by first | exact o289 15 (by decide) | exact congrFun (f289 29 (by decide)) 15
          try have u289_9 : σ289 29 16 = τ 29 16 := by first | exact o289 16 (by decide) | exact congrFun (f289 29 (by decide)) 16
          try have u289_10 : σ289 29 17 = τ 29 17 := by first | exact o289 17 (by decide) | exact congrFun (f289 29 (by decide)) 17
          try have u289_11 : σ289 29 18 = τ 29 18 := by first | exact o289 18 (by decide) | exact congrFun (f289 29 (by decide)) 18
          refine pe_rv d_M_finish_292 ?_
          first | exact ⟨hB, (fun b hb => (f289 b (by simp at hb ⊢; try omega)).trans (hfr b (by simp at hb ⊢; try omega))), (fun j hj => (o289 j (by simp at hj ⊢; try omega)).trans (hor j (by simp at hj ⊢; try omega))), hM2, ⟨by omega, by omega, by omega, by omega, by omega, by omega, by omega⟩⟩ | exact ⟨hB, (fun b hb => (f289 b (by simp at hb ⊢; try omega)).trans (hfr b (by simp at hb ⊢; try omega))), (fun j hj => (o289 j (by simp at hj ⊢; try omega)).trans (hor j (by simp at hj ⊢; try omega))), pe_ME_g hM2 (by (try dsimp only); omega) (by (try dsimp only); omega) (by (try dsimp only); omega) ⟨by omega, by rw [show σ289 29 2 = τ 29 2 by omega]; exact hbg⟩ (by (try dsimp only); omega) ((f289 30 (by decide)).trans (rfl)) ((f289 31 (by decide)).trans (rfl)) ((f289 36 (by decide)).trans (rfl)) ((f289 32 (by decide)).trans (rfl)) ((f289 33 (by decide)).trans (rfl)) ((f289 34 (by decide)).trans (rfl)) ((f289 35 (by decide)).trans (rfl)), ⟨by omega, by omega, by omega, by omega, by omega, by omega, by omega⟩⟩
  have J218 : ∀ x : Int × Int × pe_H, (pe_B x.2.2 ∧ (∀ b, b ∉ [29, 30, 31, 32, 33, 34, 35, 36] → x.2.2 b = σ b) ∧ (∀ j, j ∉ ([1, 2, 3, 5, 6, 7] : List Int) → x.2.2 29 j = σ 29 j) ∧ pe_MEs x.2.2) → pe_G m_M_finish 218 [some (pe_r 29), some (pe_i k), some (pe_i x.1), some (pe_i x.2.1)] [] x.2.2 (pe_qv (fun σ' => pe_B σ' ∧ (∀ b, b ∉ [29, 30, 31, 32, 33, 34, 35, 36, 37, 38, 39] → σ' b = σ b) ∧ (∀ j, j ∉ ([1, 2, 3, 5, 6, 7, 13, 14, 15, 16, 17, 18, 19, 20, 26, 41] : List Int) → σ' 29 j = σ 29 j) ∧ (pe_MEs σ' ∧ pe_KI (σ' 29)))) := by
    intro x hI
    obtain ⟨x2, x3, τ⟩ := x
    dsimp only at hI ⊢
    obtain ⟨hB, hfr, hor, hM1⟩ := hI
    have hM2 := hM1
    obtain ⟨hl, A30, A31, A36, ⟨hcu, hbg⟩, hma, hcl, hcg, hch, _, _, _⟩ := hM1
    have w14 : τ 29 14 = σ 29 14 := hor 14 (by decide)
    have w15 : τ 29 15 = σ 29 15 := hor 15 (by decide)
    have w16 : τ 29 16 = σ 29 16 := hor 16 (by decide)
    have w17 : τ 29 17 = σ 29 17 := hor 17 (by decide)
    have w18 : τ 29 18 = σ 29 18 := hor 18 (by decide)
    have w21 : τ 29 21 = σ 29 21 := hor 21 (by decide)
    have w19 : τ 29 19 = σ 29 19 := hor 19 (by decide)
    have hBt := hB
    refine pe_iload_n d_M_finish_218 rfl ?_
    refine pe_bipush d_M_finish_219 ?_
    refine pe_icmp_ne (t := 259) d_M_finish_221 (by first | exact hB _ _ | exact hB0 _ _ | exact hBt _ _ | exact ⟨by omega, by omega⟩) (by first | exact hB _ _ | exact hB0 _ _ | exact hBt _ _ | exact ⟨by omega, by omega⟩) (fun h221 => ?_) (fun h221 => ?_)
    · skip
      first
      | exact J259 (_, _, _) ⟨hB, (fun b hb => hfr b (by simp at hb ⊢; try omega)), (fun j hj => hor j (by simp at hj ⊢; try omega)), hM2⟩
      | exact J259 (_, _, _) ⟨hB, (fun b hb => hfr b (by simp at hb ⊢; try omega)), (fun j hj => hor j (by simp at hj ⊢; try omega)), xx⟩
    · skip
      refine pe_aload_n d_M_finish_224 rfl ?_
      refine pe_geti f_M_168 d_M_finish_225 rfl rfl 14 rfl ?_
      refine pe_iconst d_M_finish_228 ?_
      refine pe_icmp_ne (t := 259) d_M_finish_229 (by first | exact hB _ _ | exact hB0 _ _ | exact hBt _ _ | exact ⟨by omega, by omega⟩) (by first | exact hB _ _ | exact hB0 _ _ | exact hBt _ _ | exact ⟨by omega, by omega⟩) (fun h229 => ?_) (fun h229 => ?_)
      · skip
        first
        | exact J259 (_, _, _) ⟨hB, (fun b hb => hfr b (by simp at hb ⊢; try omega)), (fun j hj => hor j (by simp at hj ⊢; try omega)), hM2⟩
        | exact J259 (_, _, _) ⟨hB, (fun b hb => hfr b (by simp at hb ⊢; try omega)), (fun j hj => hor j (by simp at hj ⊢; try omega)), xx⟩
      · skip
        refine pe_aload_n d_M_finish_232 rfl ?_
        refine pe_geti f_M_117 d_M_finish_233 rfl rfl 2 rfl ?_
        refine pe_aload_n d_M_finish_236 rfl ?_
        refine pe_geti f_M_87 d_M_finish_237 rfl rfl 1 rfl ?_
        refine pe_icmp_ge (t := 259) d_M_finish_240 (by first | exact hB _ _ | exact hB0 _ _ | exact hBt _ _ | exact ⟨by omega, by omega⟩) (by first | exact hB _ _ | exact hB0 _ _ | exact hBt _ _ | exact ⟨by omega, by omega⟩) (fun h240 => ?_) (fun h240 => ?_)
        · skip
          first
          | exact J259 (_, _, _) ⟨hB, (fun b hb => hfr b (by simp at hb ⊢; try omega)), (fun j hj => hor j (by simp at hj ⊢; try omega)), hM2⟩
          | exact J259 (_, _, _) ⟨hB, (fun b hb => hfr b (by simp at hb ⊢; try omega)), (fun j hj => hor j (by simp at hj ⊢; try omega)), xx⟩
        · skip
          refine pe_aload_n d_M_finish_243 rfl ?_
          refine pe_aload_n d_M_finish_244 rfl ?_
          refine pe_geti f_M_117 d_M_finish_245 rfl rfl 2 rfl ?_
          refine pe_aload_n d_M_finish_248 rfl ?_
          refine pe_aload_n d_M_finish_249 rfl ?_
          refine pe_geti f_M_117 d_M_finish_250 rfl rfl 2 rfl ?_
          refine pe_v1p d_M_finish_253 c_M_107 i_M_after s_M_after rfl rfl (t_M_after hB (by omega) (by omega)) (fun z253 hz253 => ?_)
          refine pe_v2v d_M_finish_256 c_M_138 i_M_takeAway s_M_takeAway rfl rfl (t_M_takeAway hB hM2 (by omega)) (fun σ256 hz256 => ?_)
          obtain ⟨hB, f256, o256, x256⟩ := hz256
          try have u256_0 : σ256 29 1 = τ 29 1 := by first | exact o256 1 (by decide) | exact congrFun (f256 29 (by decide)) 1
          try have u256_1 : σ256 29 2 = τ 29 2 := by first | exact o256 2 (by decide) | exact congrFun (f256 29 (by decide)) 2
          try have u256_2 : σ256 29 3 = τ 29 3 := by first | exact o256 3 (by decide) | exact congrFun (f256 29 (by decide)) 3
          try have u256_3 : σ256 29 5 = τ 29 5 := by first | exact o256 5 (by decide) | exact congrFun (f256 29 (by decide)) 5
          try have u256_4 : σ256 29 7 = τ 29 7 := by first | exact o256 7 (by decide) | exact congrFun (f256 29 (by decide)) 7
          try have u256_5 : σ256 29 21 = τ 29 21 := by first | exact o256 21 (by decide) | exact congrFun (f256 29 (by decide)) 21
          try have u256_6 : σ256 29 26 = τ 29 26 := by first | exact o256 26 (by decide) | exact congrFun (f256 29 (by decide)) 26
          try have u256_7 : σ256 29 14 = τ 29 14 := by first | exact o256 14 (by decide) | exact congrFun (f256 29 (by decide)) 14
          try have u256_8 : σ256 29 15 = τ 29 15 := by first | exact o256 15 (by decide) | exact congrFun (f256 29 (by decide)) 15
          try have u256_9 : σ256 29 16 = τ 29 16 := by first | exact o256 16 (by decide) | exact congrFun (f256 29 (by decide)) 16
          try have u256_10 : σ256 29 17 = τ 29 17 := by first | exact o256 17 (by decide) | exact congrFun (f256 29 (by decide)) 17
          try have u256_11 : σ256 29 18 = τ 29 18 := by first | exact o256 18 (by decide) | exact congrFun (f256 29 (by decide)) 18
          have xx := x256
          first
          | exact J259 (_, _, _) ⟨hB, (fun b hb => (f256 b (by simp at hb ⊢; try omega)).trans (hfr b (by simp at hb ⊢; try omega))), (fun j hj => (o256 j (by simp at hj ⊢; try omega)).trans (hor j (by simp at hj ⊢; try omega))), hM2⟩
          | exact J259 (_, _, _) ⟨hB, (fun b hb => (f256 b (by simp at hb ⊢; try omega)).trans (hfr b (by simp at hb ⊢; try omega))), (fun j hj => (o256 j (by simp at hj ⊢; try omega)).trans (hor j (by simp at hj ⊢; try omega))), xx⟩
  have J204 : ∀ x : Int × Int × pe_H, (pe_B x.2.2 ∧ (∀ b, b ∉ [29, 30, 31, 32, 33, 34, 35, 36] → x.2.2 b = σ b) ∧ (∀ j, j ∉ ([1, 2, 3, 5, 6, 7] : List Int) → x.2.2 29 j = σ 29 j) ∧ pe_MEs x.2.2) → pe_G m_M_finish 204 [some (pe_r 29), some (pe_i k), some (pe_i x.1), some (pe_i x.2.1)] [] x.2.2 (pe_qv (fun σ' => pe_B σ' ∧ (∀ b, b ∉ [29, 30, 31, 32, 33, 34, 35, 36, 37, 38, 39] → σ' b = σ b) ∧ (∀ j, j ∉ ([1, 2, 3, 5, 6, 7, 13, 14, 15, 16, 17, 18, 19, 20, 26, 41] : List Int) → σ' 29 j = σ 29 j) ∧ (pe_MEs σ' ∧ pe_KI (σ' 29)))) := by
    intro x hI
    obtain ⟨x2, x3, τ⟩ := x
    dsimp only at hI ⊢
    obtain ⟨hB, hfr, hor, hM1⟩ := hI
    have hM2 := hM1
    obtain ⟨hl, A30, A31, A36, ⟨hcu, hbg⟩, hma, hcl, hcg, hch, _, _, _⟩ := hM1
    have w14 : τ 29 14 = σ 29 14 := hor 14 (by decide)
    have w15 : τ 29 15 = σ 29 15 := hor 15 (by decide)
    have w16 : τ 29 16 = σ 29 16 := hor 16 (by decide)
    have w17 : τ 29 17 = σ 29 17 := hor 17 (by decide)
    have w18 : τ 29 18 = σ 29 18 := hor 18 (by decide)
    have w21 : τ 29 21 = σ 29 21 := hor 21 (by decide)
    have w19 : τ 29 19 = σ 29 19 := hor 19 (by decide)
    have hBt := hB
    refine pe_iload_n d_M_finish_204 rfl ?_
    refine pe_bipush d_M_finish_205 ?_
    refine pe_icmp_ne (t := 218) d_M_finish_207 (by first | exact hB _ _ | exact hB0 _ _ | exact hBt _ _ | exact ⟨by omega, by omega⟩) (by first | exact hB _ _ | exact hB0 _ _ | exact hBt _ _ | exact ⟨by omega, by omega⟩) (fun h207 => ?_) (fun h207 => ?_)
    · skip
      first
      | exact J218 (_, _, _) ⟨hB, (fun b hb => hfr b (by simp at hb ⊢; try omega)), (fun j hj => hor j (by simp at hj ⊢; try omega)), hM2⟩
      | exact J218 (_, _, _) ⟨hB, (fun b hb => hfr b (by simp at hb ⊢; try omega)), (fun j hj => hor j (by simp at hj ⊢; try omega)), xx⟩
      | exact J218 (_, _, _) ⟨hB, (fun b hb => hfr b (by simp at hb ⊢; try omega)), (fun j hj => hor j (by simp at hj ⊢; try omega)), pe_ME_g hM2 (by (try dsimp only); omega) (by (try dsimp only); omega) (by (try dsimp only); omega) ⟨(by (try dsimp only); omega), by (try dsimp only); rw [show τ 29 2 = z212 by omega]; exact hz212.2⟩ (by (try dsimp only); omega) (rfl) (rfl) (rfl) (rfl) (rfl) (rfl) (rfl)⟩
    · skip
      refine pe_aload_n d_M_finish_210 rfl ?_
      refine pe_aload_n d_M_finish_211 rfl ?_
      refine pe_v0p d_M_finish_212 c_M_178 i_M_lineEnd s_M_lineEnd rfl rfl (t_M_lineEnd hB hM2) (fun z212 hz212 => ?_)
      refine pe_putiT f_M_117 g_11_2 d_M_finish_215 rfl rfl 2 rfl hB (by first | exact hB _ _ | exact hB0 _ _ | exact hBt _ _ | exact ⟨by omega, by omega⟩) (fun σ215 hB e215 o215 f215 => ?_)
      try have u215_0 : σ215 29 1 = τ 29 1 := by first | exact o215 1 (by decide) | exact congrFun (f215 29 (by decide)) 1
      try have u215_1 : σ215 29 2 = τ 29 2 := by first | exact o215 2 (by decide) | exact congrFun (f215 29 (by decide)) 2
      try have u215_2 : σ215 29 3 = τ 29 3 := by first | exact o215 3 (by decide) | exact congrFun (f215 29 (by decide)) 3
      try have u215_3 : σ215 29 5 = τ 29 5 := by first | exact o215 5 (by decide) | exact congrFun (f215 29 (by decide)) 5
      try have u215_4 : σ215 29 7 = τ 29 7 := by first | exact o215 7 (by decide) | exact congrFun (f215 29 (by decide)) 7
      try have u215_5 : σ215 29 21 = τ 29 21 := by first | exact o215 21 (by decide) | exact congrFun (f215 29 (by decide)) 21
      try have u215_6 : σ215 29 26 = τ 29 26 := by first | exact o215 26 (by decide) | exact congrFun (f215 29 (by decide)) 26
      try have u215_7 : σ215 29 14 = τ 29 14 := by first | exact o215 14 (by decide) | exact congrFun (f215 29 (by decide)) 14
      try have u215_8 : σ215 29 15 = τ 29 15 := by first | exact o215 15 (by decide) | exact congrFun (f215 29 (by decide)) 15
      try have u215_9 : σ215 29 16 = τ 29 16 := by first | exact o215 16 (by decide) | exact congrFun (f215 29 (by decide)) 16
      try have u215_10 : σ215 29 17 = τ 29 17 := by first | exact o215 17 (by decide) | exact congrFun (f215 29 (by decide)) 17
      try have u215_11 : σ215 29 18 = τ 29 18 := by first | exact o215 18 (by decide) | exact congrFun (f215 29 (by decide)) 18
      first
      | exact J218 (_, _, _) ⟨hB, (fun b hb => (f215 b (by simp at hb ⊢; try omega)).trans (hfr b (by simp at hb ⊢; try omega))), (fun j hj => (o215 j (by simp at hj ⊢; try omega)).trans (hor j (by simp at hj ⊢; try omega))), hM2⟩
      | exact J218 (_, _, _) ⟨hB, (fun b hb => (f215 b (by simp at hb ⊢; try omega)).trans (hfr b (by simp at hb ⊢; try omega))), (fun j hj => (o215 j (by simp at hj ⊢; try omega)).trans (hor j (by simp at hj ⊢; try omega))), xx⟩
      | exact J218 (_, _, _) ⟨hB, (fun b hb => (f215 b (by simp at hb ⊢; try omega)).trans (hfr b (by simp at hb ⊢; try omega))), (fun j hj => (o215 j (by simp at hj ⊢; try omega)).trans (hor j (by simp at hj ⊢; try omega))), pe_ME_g hM2 (by (try dsimp only); omega) (by (try dsimp only); omega) (by (try dsimp only); omega) ⟨(by (try dsimp only); omega), by (try dsimp only); rw [show σ215 29 2 = z212 by omega]; exact hz212.2⟩ (by (try dsimp only); omega) ((f215 30 (by decide)).trans (rfl)) ((f215 31 (by decide)).trans (rfl)) ((f215 36 (by decide)).trans (rfl)) ((f215 32 (by decide)).trans (rfl)) ((f215 33 (by decide)).trans (rfl)) ((f215 34 (by decide)).trans (rfl)) ((f215 35 (by decide)).trans (rfl))⟩
  have J190 : ∀ x : Int × Int × pe_H, (pe_B x.2.2 ∧ (∀ b, b ∉ [29, 30, 31, 32, 33, 34, 35, 36] → x.2.2 b = σ b) ∧ (∀ j, j ∉ ([1, 2, 3, 5, 6, 7] : List Int) → x.2.2 29 j = σ 29 j) ∧ pe_MEs x.2.2) → pe_G m_M_finish 190 [some (pe_r 29), some (pe_i k), some (pe_i x.1), some (pe_i x.2.1)] [] x.2.2 (pe_qv (fun σ' => pe_B σ' ∧ (∀ b, b ∉ [29, 30, 31, 32, 33, 34, 35, 36, 37, 38, 39] → σ' b = σ b) ∧ (∀ j, j ∉ ([1, 2, 3, 5, 6, 7, 13, 14, 15, 16, 17, 18, 19, 20, 26, 41] : List Int) → σ' 29 j = σ 29 j) ∧ (pe_MEs σ' ∧ pe_KI (σ' 29)))) := by
    intro x hI
    obtain ⟨x2, x3, τ⟩ := x
    dsimp only at hI ⊢
    obtain ⟨hB, hfr, hor, hM1⟩ := hI
    have hM2 := hM1
    obtain ⟨hl, A30, A31, A36, ⟨hcu, hbg⟩, hma, hcl, hcg, hch, _, _, _⟩ := hM1
    have w14 : τ 29 14 = σ 29 14 := hor 14 (by decide)
    have w15 : τ 29 15 = σ 29 15 := hor 15 (by decide)
    have w16 : τ 29 16 = σ 29 16 := hor 16 (by decide)
    have w17 : τ 29 17 = σ 29 17 := hor 17 (by decide)
    have w18 : τ 29 18 = σ 29 18 := hor 18 (by decide)
    have w21 : τ 29 21 = σ 29 21 := hor 21 (by decide)
    have w19 : τ 29 19 = σ 29 19 := hor 19 (by decide)
    have hBt := hB
    refine pe_iload_n d_M_finish_190 rfl ?_
    refine pe_bipush d_M_finish_191 ?_
    refine pe_icmp_ne (t := 204) d_M_finish_193 (by first | exact hB _ _ | exact hB0 _ _ | exact hBt _ _ | exact ⟨by omega, by omega⟩) (by first | exact hB _ _ | exact hB0 _ _ | exact hBt _ _ | exact ⟨by omega, by omega⟩) (fun h193 => ?_) (fun h193 => ?_)
    · skip
      first
      | exact J204 (_, _, _) ⟨hB, (fun b hb => hfr b (by simp at hb ⊢; try omega)), (fun j hj => hor j (by simp at hj ⊢; try omega)), hM2⟩
      | exact J204 (_, _, _) ⟨hB, (fun b hb => hfr b (by simp at hb ⊢; try omega)), (fun j hj => hor j (by simp at hj ⊢; try omega)), xx⟩
      | exact J204 (_, _, _) ⟨hB, (fun b hb => hfr b (by simp at hb ⊢; try omega)), (fun j hj => hor j (by simp at hj ⊢; try omega)), pe_ME_g hM2 (by (try dsimp only); omega) (by (try dsimp only); omega) (by (try dsimp only); omega) ⟨(by (try dsimp only); omega), by (try dsimp only); rw [show τ 29 2 = z198 by omega]; exact hz198.2⟩ (by (try dsimp only); omega) (rfl) (rfl) (rfl) (rfl) (rfl) (rfl) (rfl)⟩
    · skip
      refine pe_aload_n d_M_finish_196 rfl ?_
      refine pe_aload_n d_M_finish_197 rfl ?_
      refine pe_v0p d_M_finish_198 c_M_174 i_M_lineBegin s_M_lineBegin rfl rfl (t_M_lineBegin hB hM2) (fun z198 hz198 => ?_)
      refine pe_putiT f_M_117 g_11_2 d_M_finish_201 rfl rfl 2 rfl hB (by first | exact hB _ _ | exact hB0 _ _ | exact hBt _ _ | exact ⟨by omega, by omega⟩) (fun σ201 hB e201 o201 f201 => ?_)
      try have u201_0 : σ201 29 1 = τ 29 1 := by first | exact o201 1 (by decide) | exact congrFun (f201 29 (by decide)) 1
      try have u201_1 : σ201 29 2 = τ 29 2 := by first | exact o201 2 (by decide) | exact congrFun (f201 29 (by decide)) 2
      try have u201_2 : σ201 29 3 = τ 29 3 := by first | exact o201 3 (by decide) | exact congrFun (f201 29 (by decide)) 3
      try have u201_3 : σ201 29 5 = τ 29 5 := by first | exact o201 5 (by decide) | exact congrFun (f201 29 (by decide)) 5
      try have u201_4 : σ201 29 7 = τ 29 7 := by first | exact o201 7 (by decide) | exact congrFun (f201 29 (by decide)) 7
      try have u201_5 : σ201 29 21 = τ 29 21 := by first | exact o201 21 (by decide) | exact congrFun (f201 29 (by decide)) 21
      try have u201_6 : σ201 29 26 = τ 29 26 := by first | exact o201 26 (by decide) | exact congrFun (f201 29 (by decide)) 26
      try have u201_7 : σ201 29 14 = τ 29 14 := by first | exact o201 14 (by decide) | exact congrFun (f201 29 (by decide)) 14
      try have u201_8 : σ201 29 15 = τ 29 15 := by first | exact o201 15 (by decide) | exact congrFun (f201 29 (by decide)) 15
      try have u201_9 : σ201 29 16 = τ 29 16 := by first | exact o201 16 (by decide) | exact congrFun (f201 29 (by decide)) 16
      try have u201_10 : σ201 29 17 = τ 29 17 := by first | exact o201 17 (by decide) | exact congrFun (f201 29 (by decide)) 17
      try have u201_11 : σ201 29 18 = τ 29 18 := by first | exact o201 18 (by decide) | exact congrFun (f201 29 (by decide)) 18
      first
      | exact J204 (_, _, _) ⟨hB, (fun b hb => (f201 b (by simp at hb ⊢; try omega)).trans (hfr b (by simp at hb ⊢; try omega))), (fun j hj => (o201 j (by simp at hj ⊢; try omega)).trans (hor j (by simp at hj ⊢; try omega))), hM2⟩
      | exact J204 (_, _, _) ⟨hB, (fun b hb => (f201 b (by simp at hb ⊢; try omega)).trans (hfr b (by simp at hb ⊢; try omega))), (fun j hj => (o201 j (by simp at hj ⊢; try omega)).trans (hor j (by simp at hj ⊢; try omega))), xx⟩
      | exact J204 (_, _, _) ⟨hB, (fun b hb => (f201 b (by simp at hb ⊢; try omega)).trans (hfr b (by simp at hb ⊢; try omega))), (fun j hj => (o201 j (by simp at hj ⊢; try omega)).trans (hor j (by simp at hj ⊢; try omega))), pe_ME_g hM2 (by (try dsimp only); omega) (by (try dsimp only); omega) (by (try dsimp only); omega) ⟨(by (try dsimp only); omega), by (try dsimp only); rw [show σ201 29 2 = z198 by omega]; exact hz198.2⟩ (by (try dsimp only); omega) ((f201 30 (by decide)).trans (rfl)) ((f201 31 (by decide)).trans (rfl)) ((f201 36 (by decide)).trans (rfl)) ((f201 32 (by decide)).trans (rfl)) ((f201 33 (by decide)).trans (rfl)) ((f201 34 (by decide)).trans (rfl)) ((f201 35 (by decide)).trans (rfl))⟩
  have J165 : ∀ x : Int × Int × pe_H, (pe_B x.2.2 ∧ (∀ b, b ∉ [29, 30, 31, 32, 33, 34, 35, 36] → x.2.2 b = σ b) ∧ (∀ j, j ∉ ([1, 2, 3, 5, 6, 7] : List Int) → x.2.2 29 j = σ 29 j) ∧ pe_MEs x.2.2) → pe_G m_M_finish 165 [some (pe_r 29), some (pe_i k), some (pe_i x.1), some (pe_i x.2.1)] [] x.2.2 (pe_qv (fun σ' => pe_B σ' ∧ (∀ b, b ∉ [29, 30, 31, 32, 33, 34, 35, 36, 37, 38, 39] → σ' b = σ b) ∧ (∀ j, j ∉ ([1, 2, 3, 5, 6, 7, 13, 14, 15, 16, 17, 18, 19, 20, 26, 41] : List Int) → σ' 29 j = σ 29 j) ∧ (pe_MEs σ' ∧ pe_KI (σ' 29)))) := by
    intro x hI
    obtain ⟨x2, x3, τ⟩ := x
    dsimp only at hI ⊢
    obtain ⟨hB, hfr, hor, hM1⟩ := hI
    have hM2 := hM1
    obtain ⟨hl, A30, A31, A36, ⟨hcu, hbg⟩, hma, hcl, hcg, hch, _, _, _⟩ := hM1
    have w14 : τ 29 14 = σ 29 14 := hor 14 (by decide)
    have w15 : τ 29 15 = σ 29 15 := hor 15 (by decide)
    have w16 : τ 29 16 = σ 29 16 := hor 16 (by decide)
    have w17 : τ 29 17 = σ 29 17 := hor 17 (by decide)
    have w18 : τ 29 18 = σ 29 18 := hor 18 (by decide)
    have w21 : τ 29 21 = σ 29 21 := hor 21 (by decide)
    have w19 : τ 29 19 = σ 29 19 := hor 19 (by decide)
    have hBt := hB
    refine pe_iload_n d_M_finish_165 rfl ?_
    refine pe_bipush d_M_finish_166 ?_
    refine pe_icmp_ne (t := 190) d_M_finish_168 (by first | exact hB _ _ | exact hB0 _ _ | exact hBt _ _ | exact ⟨by omega, by omega⟩) (by first | exact hB _ _ | exact hB0 _ _ | exact hBt _ _ | exact ⟨by omega, by omega⟩) (fun h168 => ?_) (fun h168 => ?_)
    · skip
      first
      | exact J190 (_, _, _) ⟨hB, (fun b hb => hfr b (by simp at hb ⊢; try omega)), (fun j hj => hor j (by simp at hj ⊢; try omega)), hM2⟩
      | exact J190 (_, _, _) ⟨hB, (fun b hb => hfr b (by simp at hb ⊢; try omega)), (fun j hj => hor j (by simp at hj ⊢; try omega)), xx⟩
      | exact J190 (_, _, _) ⟨hB, (fun b hb => hfr b (by simp at hb ⊢; try omega)), (fun j hj => hor j (by simp at hj ⊢; try omega)), pe_ME_g hM2 (by (try dsimp only); omega) (by (try dsimp only); omega) (by (try dsimp only); omega) ⟨(by (try dsimp only); omega), by (try dsimp only); rw [show τ 29 2 = z184 by omega]; exact hz184.2⟩ (by (try dsimp only); omega) (rfl) (rfl) (rfl) (rfl) (rfl) (rfl) (rfl)⟩
    · skip
      refine pe_aload_n d_M_finish_171 rfl ?_
      refine pe_geti f_M_117 d_M_finish_172 rfl rfl 2 rfl ?_
      refine pe_if_le (t := 190) d_M_finish_175 (by first | exact hB _ _ | exact hB0 _ _ | exact hBt _ _ | exact ⟨by omega, by omega⟩) (fun h175 => ?_) (fun h175 => ?_)
      · skip
        first
        | exact J190 (_, _, _) ⟨hB, (fun b hb => hfr b (by simp at hb ⊢; try omega)), (fun j hj => hor j (by simp at hj ⊢; try omega)), hM2⟩
        | exact J190 (_, _, _) ⟨hB, (fun b hb => hfr b (by simp at hb ⊢; try omega)), (fun j hj => hor j (by simp at hj ⊢; try omega)), xx⟩
        | exact J190 (_, _, _) ⟨hB, (fun b hb => hfr b (by simp at hb ⊢; try omega)), (fun j hj => hor j (by simp at hj ⊢; try omega)), pe_ME_g hM2 (by (try dsimp only); omega) (by (try dsimp only); omega) (by (try dsimp only); omega) ⟨(by (try dsimp only); omega), by (try dsimp only); rw [show τ 29 2 = z184 by omega]; exact hz184.2⟩ (by (try dsimp only); omega) (rfl) (rfl) (rfl) (rfl) (rfl) (rfl) (rfl)⟩
      · skip
        refine pe_aload_n d_M_finish_178 rfl ?_
        refine pe_aload_n d_M_finish_179 rfl ?_
        refine pe_aload_n d_M_finish_180 rfl ?_
        refine pe_geti f_M_117 d_M_finish_181 rfl rfl 2 rfl ?_
        refine pe_v1p d_M_finish_184 c_M_162 i_M_before s_M_before rfl rfl (t_M_before hB (by omega) (by omega)) (fun z184 hz184 => ?_)
        refine pe_putiT f_M_117 g_11_2 d_M_finish_187 rfl rfl 2 rfl hB (by first | exact hB _ _ | exact hB0 _ _ | exact hBt _ _ | exact ⟨by omega, by omega⟩) (fun σ187 hB e187 o187 f187 => ?_)
        try have u187_0 : σ187 29 1 = τ 29 1 := by first | exact o187 1 (by decide) | exact congrFun (f187 29 (by decide)) 1
        try have u187_1 : σ187 29 2 = τ 29 2 := by first | exact o187 2 (by decide) | exact congrFun (f187 29 (by decide)) 2
        try have u187_2 : σ187 29 3 = τ 29 3 := by first | exact o187 3 (by decide) | exact congrFun (f187 29 (by decide)) 3
        try have u187_3 : σ187 29 5 = τ 29 5 := by first | exact o187 5 (by decide) | exact congrFun (f187 29 (by decide)) 5
        try have u187_4 : σ187 29 7 = τ 29 7 := by first | exact o187 7 (by decide) | exact congrFun (f187 29 (by decide)) 7
        try have u187_5 : σ187 29 21 = τ 29 21 := by first | exact o187 21 (by decide) | exact congrFun (f187 29 (by decide)) 21
        try have u187_6 : σ187 29 26 = τ 29 26 := by first | exact o187 26 (by decide) | exact congrFun (f187 29 (by decide)) 26
        try have u187_7 : σ187 29 14 = τ 29 14 := by first | exact o187 14 (by decide) | exact congrFun (f187 29 (by decide)) 14
        try have u187_8 : σ187 29 15 = τ 29 15 := by first | exact o187 15 (by decide) | exact congrFun (f187 29 (by decide)) 15
        try have u187_9 : σ187 29 16 = τ 29 16 := by first | exact o187 16 (by decide) | exact congrFun (f187 29 (by decide)) 16
        try have u187_10 : σ187 29 17 = τ 29 17 := by first | exact o187 17 (by decide) | exact congrFun (f187 29 (by decide)) 17
        try have u187_11 : σ187 29 18 = τ 29 18 := by first | exact o187 18 (by decide) | exact congrFun (f187 29 (by decide)) 18
        first
        | exact J190 (_, _, _) ⟨hB, (fun b hb => (f187 b (by simp at hb ⊢; try omega)).trans (hfr b (by simp at hb ⊢; try omega))), (fun j hj => (o187 j (by simp at hj ⊢; try omega)).trans (hor j (by simp at hj ⊢; try omega))), hM2⟩
        | exact J190 (_, _, _) ⟨hB, (fun b hb => (f187 b (by simp at hb ⊢; try omega)).trans (hfr b (by simp at hb ⊢; try omega))), (fun j hj => (o187 j (by simp at hj ⊢; try omega)).trans (hor j (by simp at hj ⊢; try omega))), xx⟩
        | exact J190 (_, _, _) ⟨hB, (fun b hb => (f187 b (by simp at hb ⊢; try omega)).trans (hfr b (by simp at hb ⊢; try omega))), (fun j hj => (o187 j (by simp at hj ⊢; try omega)).trans (hor j (by simp at hj ⊢; try omega))), pe_ME_g hM2 (by (try dsimp only); omega) (by (try dsimp only); omega) (by (try dsimp only); omega) ⟨(by (try dsimp only); omega), by (try dsimp only); rw [show σ187 29 2 = z184 by omega]; exact hz184.2⟩ (by (try dsimp only); omega) ((f187 30 (by decide)).trans (rfl)) ((f187 31 (by decide)).trans (rfl)) ((f187 36 (by decide)).trans (rfl)) ((f187 32 (by decide)).trans (rfl)) ((f187 33 (by decide)).trans (rfl)) ((f187 34 (by decide)).trans (rfl)) ((f187 35 (by decide)).trans (rfl))⟩
  have J126 : ∀ x : Int × Int, (x.2 = 0 ∨ x.2 = 1) → pe_G m_M_finish 126 [some (pe_r 29), some (pe_i k), some (pe_i x.1), some (pe_i x.2)] [] σ (pe_qv (fun σ' => pe_B σ' ∧ (∀ b, b ∉ [29, 30, 31, 32, 33, 34, 35, 36, 37, 38, 39] → σ' b = σ b) ∧ (∀ j, j ∉ ([1, 2, 3, 5, 6, 7, 13, 14, 15, 16, 17, 18, 19, 20, 26, 41] : List Int) → σ' 29 j = σ 29 j) ∧ (pe_MEs σ' ∧ pe_KI (σ' 29)))) := by
    intro x hI
    obtain ⟨x2, x3⟩ := x
    dsimp only at hI ⊢
    refine pe_iload_n d_M_finish_126 rfl ?_
    refine pe_if_ne (t := 131) d_M_finish_127 (by first | exact hB _ _ | exact hB0 _ _ | exact hBt _ _ | exact ⟨by omega, by omega⟩) (fun h127 => ?_) (fun h127 => ?_)
    · skip
      refine pe_aload_n d_M_finish_131 rfl ?_
      refine pe_iconst d_M_finish_132 ?_
      refine pe_putiT f_M_20 g_11_6 d_M_finish_133 rfl rfl 6 rfl hB (by first | exact hB _ _ | exact hB0 _ _ | exact hBt _ _ | exact ⟨by omega, by omega⟩) (fun σ133 hB e133 o133 f133 => ?_)
      try have u133_0 : σ133 29 1 = σ 29 1 := by first | exact o133 1 (by decide) | exact congrFun (f133 29 (by decide)) 1
      try have u133_1 : σ133 29 2 = σ 29 2 := by first | exact o133 2 (by decide) | exact congrFun (f133 29 (by decide)) 2
      try have u133_2 : σ133 29 3 = σ 29 3 := by first | exact o133 3 (by decide) | exact congrFun (f133 29 (by decide)) 3
      try have u133_3 : σ133 29 5 = σ 29 5 := by first | exact o133 5 (by decide) | exact congrFun (f133 29 (by decide)) 5
      try have u133_4 : σ133 29 7 = σ 29 7 := by first | exact o133 7 (by decide) | exact congrFun (f133 29 (by decide)) 7
      try have u133_5 : σ133 29 21 = σ 29 21 := by first | exact o133 21 (by decide) | exact congrFun (f133 29 (by decide)) 21
      try have u133_6 : σ133 29 26 = σ 29 26 := by first | exact o133 26 (by decide) | exact congrFun (f133 29 (by decide)) 26
      try have u133_7 : σ133 29 14 = σ 29 14 := by first | exact o133 14 (by decide) | exact congrFun (f133 29 (by decide)) 14
      try have u133_8 : σ133 29 15 = σ 29 15 := by first | exact o133 15 (by decide) | exact congrFun (f133 29 (by decide)) 15
      try have u133_9 : σ133 29 16 = σ 29 16 := by first | exact o133 16 (by decide) | exact congrFun (f133 29 (by decide)) 16
      try have u133_10 : σ133 29 17 = σ 29 17 := by first | exact o133 17 (by decide) | exact congrFun (f133 29 (by decide)) 17
      try have u133_11 : σ133 29 18 = σ 29 18 := by first | exact o133 18 (by decide) | exact congrFun (f133 29 (by decide)) 18
      refine pe_iload_n d_M_finish_136 rfl ?_
      refine pe_bipush d_M_finish_137 ?_
      refine pe_icmp_ne (t := 165) d_M_finish_139 (by first | exact hB _ _ | exact hB0 _ _ | exact hBt _ _ | exact ⟨by omega, by omega⟩) (by first | exact hB _ _ | exact hB0 _ _ | exact hBt _ _ | exact ⟨by omega, by omega⟩) (fun h139 => ?_) (fun h139 => ?_)
      · skip
        first
        | exact J165 (_, _, _) ⟨hB, (fun b hb => (f133 b (by simp at hb ⊢; try omega)).trans (rfl)), (fun j hj => (o133 j (by simp at hj ⊢; try omega)).trans (rfl)), pe_ME_g hM0 (by (try dsimp only); omega) (by (try dsimp only); omega) (by (try dsimp only); omega) ⟨by (try dsimp only); omega, by (try dsimp only); rw [show σ133 29 2 = σ 29 2 by omega]; exact hbg⟩ (by (try dsimp only); omega) ((f133 30 (by decide)).trans (rfl)) ((f133 31 (by decide)).trans (rfl)) ((f133 36 (by decide)).trans (rfl)) ((f133 32 (by decide)).trans (rfl)) ((f133 33 (by decide)).trans (rfl)) ((f133 34 (by decide)).trans (rfl)) ((f133 35 (by decide)).trans (rfl))⟩
        | exact J165 (_, _, _) ⟨hB, (fun b hb => (f133 b (by simp at hb ⊢; try omega)).trans (rfl)), (fun j hj => (o133 j (by simp at hj ⊢; try omega)).trans (rfl)), pe_ME_g hM0 (by (try dsimp only); omega) (by (try dsimp only); omega) (by (try dsimp only); omega) ⟨(by (try dsimp only); omega), by (try dsimp only); rw [show σ133 29 2 = z159 by omega]; have q := hz159.2.1; rw [show σ133 30 = σ 30 from f133 30 (by decide), show σ133 29 1 = σ 29 1 by omega] at q; exact q⟩ (by (try dsimp only); omega) ((f133 30 (by decide)).trans (rfl)) ((f133 31 (by decide)).trans (rfl)) ((f133 36 (by decide)).trans (rfl)) ((f133 32 (by decide)).trans (rfl)) ((f133 33 (by decide)).trans (rfl)) ((f133 34 (by decide)).trans (rfl)) ((f133 35 (by decide)).trans (rfl))⟩
      · skip
        refine pe_aload_n d_M_finish_142 rfl ?_
        refine pe_geti f_M_117 d_M_finish_143 rfl rfl 2 rfl ?_
        refine pe_aload_n d_M_finish_146 rfl ?_
        refine pe_geti f_M_87 d_M_finish_147 rfl rfl 1 rfl ?_
        refine pe_icmp_ge (t := 165) d_M_finish_150 (by first | exact hB _ _ | exact hB0 _ _ | exact hBt _ _ | exact ⟨by omega, by omega⟩) (by first | exact hB _ _ | exact hB0 _ _ | exact hBt _ _ | exact ⟨by omega, by omega⟩) (fun h150 => ?_) (fun h150 => ?_)
        · skip
          first
          | exact J165 (_, _, _) ⟨hB, (fun b hb => (f133 b (by simp at hb ⊢; try omega)).trans (rfl)), (fun j hj => (o133 j (by simp at hj ⊢; try omega)).trans (rfl)), pe_ME_g hM0 (by (try dsimp only); omega) (by (try dsimp only); omega) (by (try dsimp only); omega) ⟨by (try dsimp only); omega, by (try dsimp only); rw [show σ133 29 2 = σ 29 2 by omega]; exact hbg⟩ (by (try dsimp only); omega) ((f133 30 (by decide)).trans (rfl)) ((f133 31 (by decide)).trans (rfl)) ((f133 36 (by decide)).trans (rfl)) ((f133 32 (by decide)).trans (rfl)) ((f133 33 (by decide)).trans (rfl)) ((f133 34 (by decide)).trans (rfl)) ((f133 35 (by decide)).trans (rfl))⟩
          | exact J165 (_, _, _) ⟨hB, (fun b hb => (f133 b (by simp at hb ⊢; try omega)).trans (rfl)), (fun j hj => (o133 j (by simp at hj ⊢; try omega)).trans (rfl)), pe_ME_g hM0 (by (try dsimp only); omega) (by (try dsimp only); omega) (by (try dsimp only); omega) ⟨(by (try dsimp only); omega), by (try dsimp only); rw [show σ133 29 2 = z159 by omega]; have q := hz159.2.1; rw [show σ133 30 = σ 30 from f133 30 (by decide), show σ133 29 1 = σ 29 1 by omega] at q; exact q⟩ (by (try dsimp only); omega) ((f133 30 (by decide)).trans (rfl)) ((f133 31 (by decide)).trans (rfl)) ((f133 36 (by decide)).trans (rfl)) ((f133 32 (by decide)).trans (rfl)) ((f133 33 (by decide)).trans (rfl)) ((f133 34 (by decide)).trans (rfl)) ((f133 35 (by decide)).trans (rfl))⟩
        · skip
          refine pe_aload_n d_M_finish_153 rfl ?_
          refine pe_aload_n d_M_finish_154 rfl ?_
          refine pe_aload_n d_M_finish_155 rfl ?_
          refine pe_geti f_M_117 d_M_finish_156 rfl rfl 2 rfl ?_
          refine pe_v1p d_M_finish_159 c_M_107 i_M_after s_M_after rfl rfl (t_M_after hB (by omega) (by omega)) (fun z159 hz159 => ?_)
          refine pe_putiT f_M_117 g_11_2 d_M_finish_162 rfl rfl 2 rfl hB (by first | exact hB _ _ | exact hB0 _ _ | exact hBt _ _ | exact ⟨by omega, by omega⟩) (fun σ162 hB e162 o162 f162 => ?_)
          try have u162_0 : σ162 29 1 = σ133 29 1 := by first | exact o162 1 (by decide) | exact congrFun (f162 29 (by decide)) 1
          try have u162_1 : σ162 29 2 = σ133 29 2 := by first | exact o162 2 (by decide) | exact congrFun (f162 29 (by decide)) 2
          try have u162_2 : σ162 29 3 = σ133 29 3 := by first | exact o162 3 (by decide) | exact congrFun (f162 29 (by decide)) 3
          try have u162_3 : σ162 29 5 = σ133 29 5 := by first | exact o162 5 (by decide) | exact congrFun (f162 29 (by decide)) 5
          try have u162_4 : σ162 29 7 = σ133 29 7 := by first | exact o162 7 (by decide) | exact congrFun (f162 29 (by decide)) 7
          try have u162_5 : σ162 29 21 = σ133 29 21 := by first | exact o162 21 (by decide) | exact congrFun (f162 29 (by decide)) 21
          try have u162_6 : σ162 29 26 = σ133 29 26 := by first | exact o162 26 (by decide) | exact congrFun (f162 29 (by decide)) 26
          try have u162_7 : σ162 29 14 = σ133 29 14 := by first | exact o162 14 (by decide) | exact congrFun (f162 29 (by decide)) 14
          try have u162_8 : σ162 29 15 = σ133 29 15 := by first | exact o162 15 (by decide) | exact congrFun (f162 29 (by decide)) 15
          try have u162_9 : σ162 29 16 = σ133 29 16 := by first | exact o162 16 (by decide) | exact congrFun (f162 29 (by decide)) 16
          try have u162_10 : σ162 29 17 = σ133 29 17 := by first | exact o162 17 (by decide) | exact congrFun (f162 29 (by decide)) 17
          try have u162_11 : σ162 29 18 = σ133 29 18 := by first | exact o162 18 (by decide) | exact congrFun (f162 29 (by decide)) 18
          first
          | exact J165 (_, _, _) ⟨hB, (fun b hb => (f162 b (by simp at hb ⊢; try omega)).trans ((f133 b (by simp at hb ⊢; try omega)).trans (rfl))), (fun j hj => (o162 j (by simp at hj ⊢; try omega)).trans ((o133 j (by simp at hj ⊢; try omega)).trans (rfl))), pe_ME_g hM0 (by (try dsimp only); omega) (by (try dsimp only); omega) (by (try dsimp only); omega) ⟨by (try dsimp only); omega, by (try dsimp only); rw [show σ162 29 2 = σ 29 2 by omega]; exact hbg⟩ (by (try dsimp only); omega) ((f162 30 (by decide)).trans ((f133 30 (by decide)).trans (rfl))) ((f162 31 (by decide)).trans ((f133 31 (by decide)).trans (rfl))) ((f162 36 (by decide)).trans ((f133 36 (by decide)).trans (rfl))) ((f162 32 (by decide)).trans ((f133 32 (by decide)).trans (rfl))) ((f162 33 (by decide)).trans ((f133 33 (by decide)).trans (rfl))) ((f162 34 (by decide)).trans ((f133 34 (by decide)).trans (rfl))) ((f162 35 (by decide)).trans ((f133 35 (by decide)).trans (rfl)))⟩
          | exact J165 (_, _, _) ⟨hB, (fun b hb => (f162 b (by simp at hb ⊢; try omega)).trans ((f133 b (by simp at hb ⊢; try omega)).trans (rfl))), (fun j hj => (o162 j (by simp at hj ⊢; try omega)).trans ((o133 j (by simp at hj ⊢; try omega)).trans (rfl))), pe_ME_g hM0 (by (try dsimp only); omega) (by (try dsimp only); omega) (by (try dsimp only); omega) ⟨(by (try dsimp only); omega), by (try dsimp only); rw [show σ162 29 2 = z159 by omega]; have q := hz159.2.1; rw [show σ133 30 = σ 30 from f133 30 (by decide), show σ133 29 1 = σ 29 1 by omega] at q; exact q⟩ (by (try dsimp only); omega) ((f162 30 (by decide)).trans ((f133 30 (by decide)).trans (rfl))) ((f162 31 (by decide)).trans ((f133 31 (by decide)).trans (rfl))) ((f162 36 (by decide)).trans ((f133 36 (by decide)).trans (rfl))) ((f162 32 (by decide)).trans ((f133 32 (by decide)).trans (rfl))) ((f162 33 (by decide)).trans ((f133 33 (by decide)).trans (rfl))) ((f162 34 (by decide)).trans ((f133 34 (by decide)).trans (rfl))) ((f162 35 (by decide)).trans ((f133 35 (by decide)).trans (rfl)))⟩
    · skip
      refine pe_rv d_M_finish_130 ?_
      exact ⟨hB, (fun b hb => rfl), (fun j hj => rfl), hM0, hK0⟩
  have J34 : ∀ x2 : Int, (x2 = 0 ∨ x2 = 1) → pe_G m_M_finish 34 [some (pe_r 29), some (pe_i k), some (pe_i x2), none] [] σ (pe_qv (fun σ' => pe_B σ' ∧ (∀ b, b ∉ [29, 30, 31, 32, 33, 34, 35, 36, 37, 38, 39] → σ' b = σ b) ∧ (∀ j, j ∉ ([1, 2, 3, 5, 6, 7, 13, 14, 15, 16, 17, 18, 19, 20, 26, 41] : List Int) → σ' 29 j = σ 29 j) ∧ (pe_MEs σ' ∧ pe_KI (σ' 29)))) := by
    intro x2 hI
    refine pe_iload_n d_M_finish_34 rfl ?_
    refine pe_bipush d_M_finish_35 ?_
    refine pe_icmp_eq (t := 46) d_M_finish_37 (by first | exact hB _ _ | exact hB0 _ _ | exact hBt _ _ | exact ⟨by omega, by omega⟩) (by first | exact hB _ _ | exact hB0 _ _ | exact hBt _ _ | exact ⟨by omega, by omega⟩) (fun h37 => ?_) (fun h37 => ?_)
    · skip
      refine pe_aload_n d_M_finish_46 rfl ?_
      refine pe_iload_n d_M_finish_47 rfl ?_
      refine pe_bipush d_M_finish_48 ?_
      refine pe_icmp_ne (t := 57) d_M_finish_50 (by first | exact hB _ _ | exact hB0 _ _ | exact hBt _ _ | exact ⟨by omega, by omega⟩) (by first | exact hB _ _ | exact hB0 _ _ | exact hBt _ _ | exact ⟨by omega, by omega⟩) (fun h50 => ?_) (fun h50 => ?_)
      · skip
        refine pe_iconst d_M_finish_57 ?_
        refine pe_v1v d_M_finish_58 c_M_171 i_M_upOrDown s_M_upOrDown rfl rfl (t_M_upOrDown hB hM0 (by omega) (by omega)) (fun σ58 hz58 => ?_)
        obtain ⟨hB, f58, o58, x58⟩ := hz58
        try have u58_0 : σ58 29 1 = σ 29 1 := by first | exact o58 1 (by decide) | exact congrFun (f58 29 (by decide)) 1
        try have u58_1 : σ58 29 2 = σ 29 2 := by first | exact o58 2 (by decide) | exact congrFun (f58 29 (by decide)) 2
        try have u58_2 : σ58 29 3 = σ 29 3 := by first | exact o58 3 (by decide) | exact congrFun (f58 29 (by decide)) 3
        try have u58_3 : σ58 29 5 = σ 29 5 := by first | exact o58 5 (by decide) | exact congrFun (f58 29 (by decide)) 5
        try have u58_4 : σ58 29 7 = σ 29 7 := by first | exact o58 7 (by decide) | exact congrFun (f58 29 (by decide)) 7
        try have u58_5 : σ58 29 21 = σ 29 21 := by first | exact o58 21 (by decide) | exact congrFun (f58 29 (by decide)) 21
        try have u58_6 : σ58 29 26 = σ 29 26 := by first | exact o58 26 (by decide) | exact congrFun (f58 29 (by decide)) 26
        try have u58_7 : σ58 29 14 = σ 29 14 := by first | exact o58 14 (by decide) | exact congrFun (f58 29 (by decide)) 14
        try have u58_8 : σ58 29 15 = σ 29 15 := by first | exact o58 15 (by decide) | exact congrFun (f58 29 (by decide)) 15
        try have u58_9 : σ58 29 16 = σ 29 16 := by first | exact o58 16 (by decide) | exact congrFun (f58 29 (by decide)) 16
        try have u58_10 : σ58 29 17 = σ 29 17 := by first | exact o58 17 (by decide) | exact congrFun (f58 29 (by decide)) 17
        try have u58_11 : σ58 29 18 = σ 29 18 := by first | exact o58 18 (by decide) | exact congrFun (f58 29 (by decide)) 18
        have xx := x58
        refine pe_rv d_M_finish_61 ?_
        exact ⟨hB, (fun b hb => (f58 b (by simp at hb ⊢; try omega)).trans (rfl)), (fun j hj => (o58 j (by simp at hj ⊢; try omega)).trans (rfl)), xx, ⟨by omega, by omega, by omega, by omega, by omega, by omega, by omega⟩⟩
      · skip
        refine pe_iconst d_M_finish_53 ?_
        refine pe_goto (t := 58) d_M_finish_54 ?_
        refine pe_v1v d_M_finish_58 c_M_171 i_M_upOrDown s_M_upOrDown rfl rfl (t_M_upOrDown hB hM0 (by omega) (by omega)) (fun σ58 hz58 => ?_)
        obtain ⟨hB, f58, o58, x58⟩ := hz58
        try have u58_0 : σ58 29 1 = σ 29 1 := by first | exact o58 1 (by decide) | exact congrFun (f58 29 (by decide)) 1
        try have u58_1 : σ58 29 2 = σ 29 2 := by first | exact o58 2 (by decide) | exact congrFun (f58 29 (by decide)) 2
        try have u58_2 : σ58 29 3 = σ 29 3 := by first | exact o58 3 (by decide) | exact congrFun (f58 29 (by decide)) 3
        try have u58_3 : σ58 29 5 = σ 29 5 := by first | exact o58 5 (by decide) | exact congrFun (f58 29 (by decide)) 5
        try have u58_4 : σ58 29 7 = σ 29 7 := by first | exact o58 7 (by decide) | exact congrFun (f58 29 (by decide)) 7
        try have u58_5 : σ58 29 21 = σ 29 21 := by first | exact o58 21 (by decide) | exact congrFun (f58 29 (by decide)) 21
        try have u58_6 : σ58 29 26 = σ 29 26 := by first | exact o58 26 (by decide) | exact congrFun (f58 29 (by decide)) 26
        try have u58_7 : σ58 29 14 = σ 29 14 := by first | exact o58 14 (by decide) | exact congrFun (f58 29 (by decide)) 14
        try have u58_8 : σ58 29 15 = σ 29 15 := by first | exact o58 15 (by decide) | exact congrFun (f58 29 (by decide)) 15
        try have u58_9 : σ58 29 16 = σ 29 16 := by first | exact o58 16 (by decide) | exact congrFun (f58 29 (by decide)) 16
        try have u58_10 : σ58 29 17 = σ 29 17 := by first | exact o58 17 (by decide) | exact congrFun (f58 29 (by decide)) 17
        try have u58_11 : σ58 29 18 = σ 29 18 := by first | exact o58 18 (by decide) | exact congrFun (f58 29 (by decide)) 18
        have xx := x58
        refine pe_rv d_M_finish_61 ?_
        exact ⟨hB, (fun b hb => (f58 b (by simp at hb ⊢; try omega)).trans (rfl)), (fun j hj => (o58 j (by simp at hj ⊢; try omega)).trans (rfl)), xx, ⟨by omega, by omega, by omega, by omega, by omega, by omega, by omega⟩⟩
    · skip
      refine pe_iload_n d_M_finish_40 rfl ?_
      refine pe_bipush d_M_finish_41 ?_
      refine pe_icmp_ne (t := 62) d_M_finish_43 (by first | exact hB _ _ | exact hB0 _ _ | exact hBt _ _ | exact ⟨by omega, by omega⟩) (by first | exact hB _ _ | exact hB0 _ _ | exact hBt _ _ | exact ⟨by omega, by omega⟩) (fun h43 => ?_) (fun h43 => ?_)
      · skip
        refine pe_iload_n d_M_finish_62 rfl ?_
        refine pe_bipush d_M_finish_63 ?_
        refine pe_icmp_eq (t := 120) d_M_finish_65 (by first | exact hB _ _ | exact hB0 _ _ | exact hBt _ _ | exact ⟨by omega, by omega⟩) (by first | exact hB _ _ | exact hB0 _ _ | exact hBt _ _ | exact ⟨by omega, by omega⟩) (fun h65 => ?_) (fun h65 => ?_)
        · skip
          refine pe_iconst d_M_finish_120 ?_
          refine pe_goto (t := 125) d_M_finish_121 ?_
          refine pe_istore_n d_M_finish_125 ?_
          exact J126 (_, _) (by (try dsimp only); omega)
        · skip
          refine pe_iload_n d_M_finish_68 rfl ?_
          refine pe_bipush d_M_finish_69 ?_
          refine pe_icmp_eq (t := 120) d_M_finish_71 (by first | exact hB _ _ | exact hB0 _ _ | exact hBt _ _ | exact ⟨by omega, by omega⟩) (by first | exact hB _ _ | exact hB0 _ _ | exact hBt _ _ | exact ⟨by omega, by omega⟩) (fun h71 => ?_) (fun h71 => ?_)
          · skip
            refine pe_iconst d_M_finish_120 ?_
            refine pe_goto (t := 125) d_M_finish_121 ?_
            refine pe_istore_n d_M_finish_125 ?_
            exact J126 (_, _) (by (try dsimp only); omega)
          · skip
            refine pe_iload_n d_M_finish_74 rfl ?_
            refine pe_bipush d_M_finish_75 ?_
            refine pe_icmp_eq (t := 120) d_M_finish_77 (by first | exact hB _ _ | exact hB0 _ _ | exact hBt _ _ | exact ⟨by omega, by omega⟩) (by first | exact hB _ _ | exact hB0 _ _ | exact hBt _ _ | exact ⟨by omega, by omega⟩) (fun h77 => ?_) (fun h77 => ?_)
            · skip
              refine pe_iconst d_M_finish_120 ?_
              refine pe_goto (t := 125) d_M_finish_121 ?_
              refine pe_istore_n d_M_finish_125 ?_
              exact J126 (_, _) (by (try dsimp only); omega)
            · skip
              refine pe_iload_n d_M_finish_80 rfl ?_
              refine pe_bipush d_M_finish_81 ?_
              refine pe_icmp_eq (t := 120) d_M_finish_83 (by first | exact hB _ _ | exact hB0 _ _ | exact hBt _ _ | exact ⟨by omega, by omega⟩) (by first | exact hB _ _ | exact hB0 _ _ | exact hBt _ _ | exact ⟨by omega, by omega⟩) (fun h83 => ?_) (fun h83 => ?_)
              · skip
                refine pe_iconst d_M_finish_120 ?_
                refine pe_goto (t := 125) d_M_finish_121 ?_
                refine pe_istore_n d_M_finish_125 ?_
                exact J126 (_, _) (by (try dsimp only); omega)
              · skip
                refine pe_iload_n d_M_finish_86 rfl ?_
                refine pe_bipush d_M_finish_87 ?_
                refine pe_icmp_ne (t := 124) d_M_finish_89 (by first | exact hB _ _ | exact hB0 _ _ | exact hBt _ _ | exact ⟨by omega, by omega⟩) (by first | exact hB _ _ | exact hB0 _ _ | exact hBt _ _ | exact ⟨by omega, by omega⟩) (fun h89 => ?_) (fun h89 => ?_)
                · skip
                  refine pe_iconst d_M_finish_124 ?_
                  refine pe_istore_n d_M_finish_125 ?_
                  exact J126 (_, _) (by (try dsimp only); omega)
                · skip
                  refine pe_aload_n d_M_finish_92 rfl ?_
                  refine pe_geti f_M_168 d_M_finish_93 rfl rfl 14 rfl ?_
                  refine pe_iconst d_M_finish_96 ?_
                  refine pe_icmp_eq (t := 120) d_M_finish_97 (by first | exact hB _ _ | exact hB0 _ _ | exact hBt _ _ | exact ⟨by omega, by omega⟩) (by first | exact hB _ _ | exact hB0 _ _ | exact hBt _ _ | exact ⟨by omega, by omega⟩) (fun h97 => ?_) (fun h97 => ?_)
                  · skip
                    refine pe_iconst d_M_finish_120 ?_
                    refine pe_goto (t := 125) d_M_finish_121 ?_
                    refine pe_istore_n d_M_finish_125 ?_
                    exact J126 (_, _) (by (try dsimp only); omega)
                  · skip
                    refine pe_aload_n d_M_finish_100 rfl ?_
                    refine pe_geti f_M_168 d_M_finish_101 rfl rfl 14 rfl ?_
                    refine pe_sipush d_M_finish_104 ?_
                    refine pe_icmp_eq (t := 120) d_M_finish_107 (by first | exact hB _ _ | exact hB0 _ _ | exact hBt _ _ | exact ⟨by omega, by omega⟩) (by first | exact hB _ _ | exact hB0 _ _ | exact hBt _ _ | exact ⟨by omega, by omega⟩) (fun h107 => ?_) (fun h107 => ?_)
                    · skip
                      refine pe_iconst d_M_finish_120 ?_
                      refine pe_goto (t := 125) d_M_finish_121 ?_
                      refine pe_istore_n d_M_finish_125 ?_
                      exact J126 (_, _) (by (try dsimp only); omega)
                    · skip
                      refine pe_aload_n d_M_finish_110 rfl ?_
                      refine pe_geti f_M_168 d_M_finish_111 rfl rfl 14 rfl ?_
                      refine pe_sipush d_M_finish_114 ?_
                      refine pe_icmp_ne (t := 124) d_M_finish_117 (by first | exact hB _ _ | exact hB0 _ _ | exact hBt _ _ | exact ⟨by omega, by omega⟩) (by first | exact hB _ _ | exact hB0 _ _ | exact hBt _ _ | exact ⟨by omega, by omega⟩) (fun h117 => ?_) (fun h117 => ?_)
                      · skip
                        refine pe_iconst d_M_finish_124 ?_
                        refine pe_istore_n d_M_finish_125 ?_
                        exact J126 (_, _) (by (try dsimp only); omega)
                      · skip
                        refine pe_iconst d_M_finish_120 ?_
                        refine pe_goto (t := 125) d_M_finish_121 ?_
                        refine pe_istore_n d_M_finish_125 ?_
                        exact J126 (_, _) (by (try dsimp only); omega)
      · skip
        refine pe_aload_n d_M_finish_46 rfl ?_
        refine pe_iload_n d_M_finish_47 rfl ?_
        refine pe_bipush d_M_finish_48 ?_
        refine pe_icmp_ne (t := 57) d_M_finish_50 (by first | exact hB _ _ | exact hB0 _ _ | exact hBt _ _ | exact ⟨by omega, by omega⟩) (by first | exact hB _ _ | exact hB0 _ _ | exact hBt _ _ | exact ⟨by omega, by omega⟩) (fun h50 => ?_) (fun h50 => ?_)
        · skip
          refine pe_iconst d_M_finish_57 ?_
          refine pe_v1v d_M_finish_58 c_M_171 i_M_upOrDown s_M_upOrDown rfl rfl (t_M_upOrDown hB hM0 (by omega) (by omega)) (fun σ58 hz58 => ?_)
          obtain ⟨hB, f58, o58, x58⟩ := hz58
          try have u58_0 : σ58 29 1 = σ 29 1 := by first | exact o58 1 (by decide) | exact congrFun (f58 29 (by decide)) 1
          try have u58_1 : σ58 29 2 = σ 29 2 := by first | exact o58 2 (by decide) | exact congrFun (f58 29 (by decide)) 2
          try have u58_2 : σ58 29 3 = σ 29 3 := by first | exact o58 3 (by decide) | exact congrFun (f58 29 (by decide)) 3
          try have u58_3 : σ58 29 5 = σ 29 5 := by first | exact o58 5 (by decide) | exact congrFun (f58 29 (by decide)) 5
          try have u58_4 : σ58 29 7 = σ 29 7 := by first | exact o58 7 (by decide) | exact congrFun (f58 29 (by decide)) 7
          try have u58_5 : σ58 29 21 = σ 29 21 := by first | exact o58 21 (by decide) | exact congrFun (f58 29 (by decide)) 21
          try have u58_6 : σ58 29 26 = σ 29 26 := by first | exact o58 26 (by decide) | exact congrFun (f58 29 (by decide)) 26
          try have u58_7 : σ58 29 14 = σ 29 14 := by first | exact o58 14 (by decide) | exact congrFun (f58 29 (by decide)) 14
          try have u58_8 : σ58 29 15 = σ 29 15 := by first | exact o58 15 (by decide) | exact congrFun (f58 29 (by decide)) 15
          try have u58_9 : σ58 29 16 = σ 29 16 := by first | exact o58 16 (by decide) | exact congrFun (f58 29 (by decide)) 16
          try have u58_10 : σ58 29 17 = σ 29 17 := by first | exact o58 17 (by decide) | exact congrFun (f58 29 (by decide)) 17
          try have u58_11 : σ58 29 18 = σ 29 18 := by first | exact o58 18 (by decide) | exact congrFun (f58 29 (by decide)) 18
          have xx := x58
          refine pe_rv d_M_finish_61 ?_
          exact ⟨hB, (fun b hb => (f58 b (by simp at hb ⊢; try omega)).trans (rfl)), (fun j hj => (o58 j (by simp at hj ⊢; try omega)).trans (rfl)), xx, ⟨by omega, by omega, by omega, by omega, by omega, by omega, by omega⟩⟩
        · skip
          refine pe_iconst d_M_finish_53 ?_
          refine pe_goto (t := 58) d_M_finish_54 ?_
          refine pe_v1v d_M_finish_58 c_M_171 i_M_upOrDown s_M_upOrDown rfl rfl (t_M_upOrDown hB hM0 (by omega) (by omega)) (fun σ58 hz58 => ?_)
          obtain ⟨hB, f58, o58, x58⟩ := hz58
          try have u58_0 : σ58 29 1 = σ 29 1 := by first | exact o58 1 (by decide) | exact congrFun (f58 29 (by decide)) 1
          try have u58_1 : σ58 29 2 = σ 29 2 := by first | exact o58 2 (by decide) | exact congrFun (f58 29 (by decide)) 2
          try have u58_2 : σ58 29 3 = σ 29 3 := by first | exact o58 3 (by decide) | exact congrFun (f58 29 (by decide)) 3
          try have u58_3 : σ58 29 5 = σ 29 5 := by first | exact o58 5 (by decide) | exact congrFun (f58 29 (by decide)) 5
          try have u58_4 : σ58 29 7 = σ 29 7 := by first | exact o58 7 (by decide) | exact congrFun (f58 29 (by decide)) 7
          try have u58_5 : σ58 29 21 = σ 29 21 := by first | exact o58 21 (by decide) | exact congrFun (f58 29 (by decide)) 21
          try have u58_6 : σ58 29 26 = σ 29 26 := by first | exact o58 26 (by decide) | exact congrFun (f58 29 (by decide)) 26
          try have u58_7 : σ58 29 14 = σ 29 14 := by first | exact o58 14 (by decide) | exact congrFun (f58 29 (by decide)) 14
          try have u58_8 : σ58 29 15 = σ 29 15 := by first | exact o58 15 (by decide) | exact congrFun (f58 29 (by decide)) 15
          try have u58_9 : σ58 29 16 = σ 29 16 := by first | exact o58 16 (by decide) | exact congrFun (f58 29 (by decide)) 16
          try have u58_10 : σ58 29 17 = σ 29 17 := by first | exact o58 17 (by decide) | exact congrFun (f58 29 (by decide)) 17
          try have u58_11 : σ58 29 18 = σ 29 18 := by first | exact o58 18 (by decide) | exact congrFun (f58 29 (by decide)) 18
          have xx := x58
          refine pe_rv d_M_finish_61 ?_
          exact ⟨hB, (fun b hb => (f58 b (by simp at hb ⊢; try omega)).trans (rfl)), (fun j hj => (o58 j (by simp at hj ⊢; try omega)).trans (rfl)), xx, ⟨by omega, by omega, by omega, by omega, by omega, by omega, by omega⟩⟩
  refine pe_iload_n d_M_finish_0 rfl ?_
  refine pe_bipush d_M_finish_1 ?_
  refine pe_icmp_ne (t := 20) d_M_finish_3 (by first | exact hB _ _ | exact hB0 _ _ | exact hBt _ _ | exact ⟨by omega, by omega⟩) (by first | exact hB _ _ | exact hB0 _ _ | exact hBt _ _ | exact ⟨by omega, by omega⟩) (fun h3 => ?_) (fun h3 => ?_)
  · skip
    refine pe_iconst d_M_finish_20 ?_
    refine pe_istore_n d_M_finish_21 ?_
    refine pe_aload_n d_M_finish_22 rfl ?_
    refine pe_geti f_M_147 d_M_finish_23 rfl rfl 19 rfl ?_
    refine pe_if_eq (t := 34) d_M_finish_26 (by first | exact hB _ _ | exact hB0 _ _ | exact hBt _ _ | exact ⟨by omega, by omega⟩) (fun h26 => ?_) (fun h26 => ?_)
    · skip
      exact J34 _ (by omega)
    · skip
      refine pe_iload_n d_M_finish_29 rfl ?_
      refine pe_if_ne (t := 34) d_M_finish_30 (by first | exact hB _ _ | exact hB0 _ _ | exact hBt _ _ | exact ⟨by omega, by omega⟩) (fun h30 => ?_) (fun h30 => ?_)
      · skip
        exact J34 _ (by omega)
      · skip
        refine pe_rv d_M_finish_33 ?_
        exact ⟨hB, (fun b hb => rfl), (fun j hj => rfl), hM0, hK0⟩
  · skip
    refine pe_aload_n d_M_finish_6 rfl ?_
    refine pe_geti f_M_168 d_M_finish_7 rfl rfl 14 rfl ?_
    refine pe_sipush d_M_finish_10 ?_
    refine pe_icmp_ne (t := 20) d_M_finish_13 (by first | exact hB _ _ | exact hB0 _ _ | exact hBt _ _ | exact ⟨by omega, by omega⟩) (by first | exact hB _ _ | exact hB0 _ _ | exact hBt _ _ | exact ⟨by omega, by omega⟩) (fun h13 => ?_) (fun h13 => ?_)
    · skip
      refine pe_iconst d_M_finish_20 ?_
      refine pe_istore_n d_M_finish_21 ?_
      refine pe_aload_n d_M_finish_22 rfl ?_
      refine pe_geti f_M_147 d_M_finish_23 rfl rfl 19 rfl ?_
      refine pe_if_eq (t := 34) d_M_finish_26 (by first | exact hB _ _ | exact hB0 _ _ | exact hBt _ _ | exact ⟨by omega, by omega⟩) (fun h26 => ?_) (fun h26 => ?_)
      · skip
        exact J34 _ (by omega)
      · skip
        refine pe_iload_n d_M_finish_29 rfl ?_
        refine pe_if_ne (t := 34) d_M_finish_30 (by first | exact hB _ _ | exact hB0 _ _ | exact hBt _ _ | exact ⟨by omega, by omega⟩) (fun h30 => ?_) (fun h30 => ?_)
        · skip
          exact J34 _ (by omega)
        · skip
          refine pe_rv d_M_finish_33 ?_
          exact ⟨hB, (fun b hb => rfl), (fun j hj => rfl), hM0, hK0⟩
    · skip
      refine pe_iconst d_M_finish_16 ?_
      refine pe_goto (t := 21) d_M_finish_17 ?_
      refine pe_istore_n d_M_finish_21 ?_
      refine pe_aload_n d_M_finish_22 rfl ?_
      refine pe_geti f_M_147 d_M_finish_23 rfl rfl 19 rfl ?_
      refine pe_if_eq (t := 34) d_M_finish_26 (by first | exact hB _ _ | exact hB0 _ _ | exact hBt _ _ | exact ⟨by omega, by omega⟩) (fun h26 => ?_) (fun h26 => ?_)
      · skip
        exact J34 _ (by omega)
      · skip
        refine pe_iload_n d_M_finish_29 rfl ?_
        refine pe_if_ne (t := 34) d_M_finish_30 (by first | exact hB _ _ | exact hB0 _ _ | exact hBt _ _ | exact ⟨by omega, by omega⟩) (fun h30 => ?_) (fun h30 => ?_)
        · skip
          exact J34 _ (by omega)
        · skip
          refine pe_rv d_M_finish_33 ?_
          exact ⟨hB, (fun b hb => rfl), (fun j hj => rfl), hM0, hK0⟩
