set_option maxHeartbeats 2000000 in
theorem t_M_compose {σ : pe_H} (hB : pe_B σ) (hM : pe_MEs σ) (hW : 1 ≤ σ 29 21 ∧ σ 29 21 ≤ 24 ∧ 1 ≤ σ 29 22 ∧ σ 29 22 ≤ 8) (ht : (0 ≤ σ 29 27 ∧ σ 29 27 ≤ 600)) (hN : ∀ j, 0 ≤ j → j < σ 29 1 → σ 30 j ≠ 0) : pe_M m_M_compose [pe_r 29] σ (pe_qv (fun σ' => pe_B σ' ∧ (∀ b, b ∉ [29, 37, 38, 39, 40, 41] → σ' b = σ b) ∧ (∀ j, j ∉ ([26, 27, 30, 31] : List Int) → σ' 29 j = σ 29 j) ∧ pe_DW (σ' 29) (σ' 40) ∧ (0 ≤ σ' 29 30 ∧ σ' 29 30 < σ 29 22 ∧ 0 ≤ σ' 29 31 ∧ σ' 29 31 < σ 29 21) ∧ (0 ≤ σ' 29 27 ∧ σ' 29 27 ≤ 600))) := by
  refine pe_in0 (lv := [some (pe_r 29), none]) ?_
  have hB0 := hB
  have hM0 := hM
  obtain ⟨hl, A30, A31, A36, ⟨hcu, hbg⟩, hma, hcl, hcg, hch, N30, N31, N36⟩ := hM
  have J2 : ∀ x : Int × pe_H, (pe_B x.2 ∧ (∀ b, b ∉ [40, 41] → x.2 b = σ b) ∧ (∀ j, 0 ≤ j → j < x.1 → x.2 40 j = 32) ∧ (0 ≤ x.1 ∧ x.1 ≤ 192)) → pe_G m_M_compose 2 [some (pe_r 29), some (pe_i x.1)] [] x.2 (pe_qv (fun σ' => pe_B σ' ∧ (∀ b, b ∉ [29, 37, 38, 39, 40, 41] → σ' b = σ b) ∧ (∀ j, j ∉ ([26, 27, 30, 31] : List Int) → σ' 29 j = σ 29 j) ∧ pe_DW (σ' 29) (σ' 40) ∧ (0 ≤ σ' 29 30 ∧ σ' 29 30 < σ 29 22 ∧ 0 ≤ σ' 29 31 ∧ σ' 29 31 < σ 29 21) ∧ (0 ≤ σ' 29 27 ∧ σ' 29 27 ≤ 600))) := by
    refine pe_loop (fun x : Int × pe_H => (300 - x.1).toNat) _ _ ?_
    intro x hI ih
    obtain ⟨k, τ⟩ := x
    dsimp only at hI ⊢
    obtain ⟨hB, hfr, hX⟩ := hI
    have v_29_1 : τ 29 1 = σ 29 1 := congrFun (hfr 29 (by decide)) 1
    have v_29_2 : τ 29 2 = σ 29 2 := congrFun (hfr 29 (by decide)) 2
    have v_29_3 : τ 29 3 = σ 29 3 := congrFun (hfr 29 (by decide)) 3
    have v_29_7 : τ 29 7 = σ 29 7 := congrFun (hfr 29 (by decide)) 7
    have v_29_21 : τ 29 21 = σ 29 21 := congrFun (hfr 29 (by decide)) 21
    have v_29_22 : τ 29 22 = σ 29 22 := congrFun (hfr 29 (by decide)) 22
    have v_29_27 : τ 29 27 = σ 29 27 := congrFun (hfr 29 (by decide)) 27
    have v_29_5 : τ 29 5 = σ 29 5 := congrFun (hfr 29 (by decide)) 5
    obtain ⟨h32, hX⟩ := hX
    have hBt := hB
    refine pe_iload_n d_M_compose_2 rfl ?_
    refine pe_sipush d_M_compose_3 ?_
    refine pe_icmp_ge (t := 30) d_M_compose_6 (by first | exact hB _ _ | exact hB0 _ _ | exact hBt _ _ | exact ⟨by omega, by omega⟩) (by first | exact hB _ _ | exact hB0 _ _ | exact hBt _ _ | exact ⟨by omega, by omega⟩) (fun h6 => ?_) (fun h6 => ?_)
    · skip
      have hD : pe_DW (σ 29) (τ 40) := by
        refine ⟨fun j a b => ?_, fun r a b => ?_, fun r c a b a2 b2 z => ?_⟩
        · rw [h32 j a (by omega)]; omega
        · have ix := pe_ix (W := σ 29 21) (H := σ 29 22) (r := r) (c := 0) (by omega) (by omega) (by omega) (by omega)
          rw [h32 _ (by omega) (by omega)]; omega
        · have ix := pe_ix (W := σ 29 21) (H := σ 29 22) (r := r) (c := c) (by omega) (by omega) (by omega) (by omega)
          rw [h32 _ (by omega) (by omega)] at z
          exact absurd z (pe_nw (by omega))
      refine pe_aload_n d_M_compose_30 rfl ?_
      refine pe_iconst d_M_compose_31 ?_
      refine pe_putiT f_M_234 g_11_30 d_M_compose_32 rfl rfl 30 rfl hB (by first | exact hB _ _ | exact hB0 _ _ | exact hBt _ _ | exact ⟨by omega, by omega⟩) (fun σ32 hB e32 o32 f32 => ?_)
      try have u32_0 : σ32 29 1 = τ 29 1 := by first | exact o32 1 (by decide) | exact congrFun (f32 29 (by decide)) 1
      try have u32_1 : σ32 29 2 = τ 29 2 := by first | exact o32 2 (by decide) | exact congrFun (f32 29 (by decide)) 2
      try have u32_2 : σ32 29 3 = τ 29 3 := by first | exact o32 3 (by decide) | exact congrFun (f32 29 (by decide)) 3
      try have u32_3 : σ32 29 7 = τ 29 7 := by first | exact o32 7 (by decide) | exact congrFun (f32 29 (by decide)) 7
      try have u32_4 : σ32 29 21 = τ 29 21 := by first | exact o32 21 (by decide) | exact congrFun (f32 29 (by decide)) 21
      try have u32_5 : σ32 29 22 = τ 29 22 := by first | exact o32 22 (by decide) | exact congrFun (f32 29 (by decide)) 22
      try have u32_6 : σ32 29 27 = τ 29 27 := by first | exact o32 27 (by decide) | exact congrFun (f32 29 (by decide)) 27
      try have u32_7 : σ32 29 5 = τ 29 5 := by first | exact o32 5 (by decide) | exact congrFun (f32 29 (by decide)) 5
      try have u32_8 : σ32 29 26 = τ 29 26 := by first | exact o32 26 (by decide) | exact congrFun (f32 29 (by decide)) 26
      try have u32_9 : σ32 29 30 = τ 29 30 := by first | exact o32 30 (by decide) | exact congrFun (f32 29 (by decide)) 30
      try have u32_10 : σ32 29 31 = τ 29 31 := by first | exact o32 31 (by decide) | exact congrFun (f32 29 (by decide)) 31
      refine pe_aload_n d_M_compose_35 rfl ?_
      refine pe_iconst d_M_compose_36 ?_
      refine pe_putiT f_M_237 g_11_31 d_M_compose_37 rfl rfl 31 rfl hB (by first | exact hB _ _ | exact hB0 _ _ | exact hBt _ _ | exact ⟨by omega, by omega⟩) (fun σ37 hB e37 o37 f37 => ?_)
      try have u37_0 : σ37 29 1 = σ32 29 1 := by first | exact o37 1 (by decide) | exact congrFun (f37 29 (by decide)) 1
      try have u37_1 : σ37 29 2 = σ32 29 2 := by first | exact o37 2 (by decide) | exact congrFun (f37 29 (by decide)) 2
      try have u37_2 : σ37 29 3 = σ32 29 3 := by first | exact o37 3 (by decide) | exact congrFun (f37 29 (by decide)) 3
      try have u37_3 : σ37 29 7 = σ32 29 7 := by first | exact o37 7 (by decide) | exact congrFun (f37 29 (by decide)) 7
      try have u37_4 : σ37 29 21 = σ32 29 21 := by first | exact o37 21 (by decide) | exact congrFun (f37 29 (by decide)) 21
      try have u37_5 : σ37 29 22 = σ32 29 22 := by first | exact o37 22 (by decide) | exact congrFun (f37 29 (by decide)) 22
      try have u37_6 : σ37 29 27 = σ32 29 27 := by first | exact o37 27 (by decide) | exact congrFun (f37 29 (by decide)) 27
      try have u37_7 : σ37 29 5 = σ32 29 5 := by first | exact o37 5 (by decide) | exact congrFun (f37 29 (by decide)) 5
      try have u37_8 : σ37 29 26 = σ32 29 26 := by first | exact o37 26 (by decide) | exact congrFun (f37 29 (by decide)) 26
      try have u37_9 : σ37 29 30 = σ32 29 30 := by first | exact o37 30 (by decide) | exact congrFun (f37 29 (by decide)) 30
      try have u37_10 : σ37 29 31 = σ32 29 31 := by first | exact o37 31 (by decide) | exact congrFun (f37 29 (by decide)) 31
      refine pe_aload_n d_M_compose_40 rfl ?_
      refine pe_v0p d_M_compose_41 c_M_240 i_M_isSmall s_M_isSmall rfl rfl (t_M_isSmall hB) (fun z41 hz41 => ?_)
      refine pe_if_eq (t := 48) d_M_compose_44 (by first | exact hB _ _ | exact hB0 _ _ | exact hBt _ _ | exact ⟨by omega, by omega⟩) (fun h44 => ?_) (fun h44 => ?_)
      · skip
        refine pe_aload_n d_M_compose_48 rfl ?_
        refine pe_v0v d_M_compose_49 c_M_165 i_M_layOut s_M_layOut rfl rfl (t_M_layOut hB (by omega) (by omega)) (fun σ49 hz49 => ?_)
        obtain ⟨hB, f49, o49, x49⟩ := hz49
        try have u49_0 : σ49 29 1 = σ37 29 1 := by first | exact o49 1 (by decide) | exact congrFun (f49 29 (by decide)) 1
        try have u49_1 : σ49 29 2 = σ37 29 2 := by first | exact o49 2 (by decide) | exact congrFun (f49 29 (by decide)) 2
        try have u49_2 : σ49 29 3 = σ37 29 3 := by first | exact o49 3 (by decide) | exact congrFun (f49 29 (by decide)) 3
        try have u49_3 : σ49 29 7 = σ37 29 7 := by first | exact o49 7 (by decide) | exact congrFun (f49 29 (by decide)) 7
        try have u49_4 : σ49 29 21 = σ37 29 21 := by first | exact o49 21 (by decide) | exact congrFun (f49 29 (by decide)) 21
        try have u49_5 : σ49 29 22 = σ37 29 22 := by first | exact o49 22 (by decide) | exact congrFun (f49 29 (by decide)) 22
        try have u49_6 : σ49 29 27 = σ37 29 27 := by first | exact o49 27 (by decide) | exact congrFun (f49 29 (by decide)) 27
        try have u49_7 : σ49 29 5 = σ37 29 5 := by first | exact o49 5 (by decide) | exact congrFun (f49 29 (by decide)) 5
        try have u49_8 : σ49 29 26 = σ37 29 26 := by first | exact o49 26 (by decide) | exact congrFun (f49 29 (by decide)) 26
        try have u49_9 : σ49 29 30 = σ37 29 30 := by first | exact o49 30 (by decide) | exact congrFun (f49 29 (by decide)) 30
        try have u49_10 : σ49 29 31 = σ37 29 31 := by first | exact o49 31 (by decide) | exact congrFun (f49 29 (by decide)) 31
        have lo := x49.1 (σ49 29 2) (by omega) (by omega) (by rw [show σ49 29 1 = σ 29 1 by omega, show σ49 29 2 = σ 29 2 by omega, show σ49 30 = σ 30 from ((f49 30 (by decide)).trans ((f37 30 (by decide)).trans ((f32 30 (by decide)).trans (hfr 30 (by decide)))))]; exact hbg)
        refine pe_aload_n d_M_compose_52 rfl ?_
        refine pe_getr f_M_41 d_M_compose_53 rfl rfl ?_
        refine pe_aload_n d_M_compose_56 rfl ?_
        refine pe_geti f_M_117 d_M_compose_57 rfl rfl 2 rfl ?_
        refine pe_iald d_M_compose_60 rfl (by omega) (by omega) ?_
        refine pe_istore_n d_M_compose_61 ?_
        refine pe_iload_n d_M_compose_62 rfl ?_
        refine pe_aload_n d_M_compose_63 rfl ?_
        refine pe_geti f_M_222 d_M_compose_64 rfl rfl 27 rfl ?_
        refine pe_icmp_ge (t := 75) d_M_compose_67 (by first | exact hB _ _ | exact hB0 _ _ | exact hBt _ _ | exact ⟨by omega, by omega⟩) (by first | exact hB _ _ | exact hB0 _ _ | exact hBt _ _ | exact ⟨by omega, by omega⟩) (fun h67 => ?_) (fun h67 => ?_)
        · skip
          refine pe_iload_n d_M_compose_75 rfl ?_
          refine pe_aload_n d_M_compose_76 rfl ?_
          refine pe_geti f_M_222 d_M_compose_77 rfl rfl 27 rfl ?_
          refine pe_aload_n d_M_compose_80 rfl ?_
          refine pe_geti f_M_81 d_M_compose_81 rfl rfl 22 rfl ?_
          refine pe_iadd d_M_compose_84 ?_
          refine pe_iconst d_M_compose_85 ?_
          refine pe_isub d_M_compose_86 ?_
          refine pe_icmp_lt (t := 102) d_M_compose_87 (by first | exact hB _ _ | exact hB0 _ _ | exact hBt _ _ | exact ⟨by omega, by omega⟩) (by first | exact hB _ _ | exact hB0 _ _ | exact hBt _ _ | exact ⟨by omega, by omega⟩) (fun h87 => ?_) (fun h87 => ?_)
          · skip
            refine pe_aload_n d_M_compose_102 rfl ?_
            refine pe_v0v d_M_compose_103 c_M_244 i_M_fillText s_M_fillText rfl rfl (t_M_fillText hB (pe_ME_to hM0 (by omega) (by omega) (by omega) (by omega) (by omega) ((f49 30 (by decide)).trans ((f37 30 (by decide)).trans ((f32 30 (by decide)).trans (hfr 30 (by decide))))) ((f49 31 (by decide)).trans ((f37 31 (by decide)).trans ((f32 31 (by decide)).trans (hfr 31 (by decide))))) ((f49 36 (by decide)).trans ((f37 36 (by decide)).trans ((f32 36 (by decide)).trans (hfr 36 (by decide))))) ((f49 32 (by decide)).trans ((f37 32 (by decide)).trans ((f32 32 (by decide)).trans (hfr 32 (by decide))))) ((f49 33 (by decide)).trans ((f37 33 (by decide)).trans ((f32 33 (by decide)).trans (hfr 33 (by decide))))) ((f49 34 (by decide)).trans ((f37 34 (by decide)).trans ((f32 34 (by decide)).trans (hfr 34 (by decide))))) ((f49 35 (by decide)).trans ((f37 35 (by decide)).trans ((f32 35 (by decide)).trans (hfr 35 (by decide)))))) (by omega) (pe_DW_to hD (by omega) (by omega) ((f49 40 (by decide)).trans ((f37 40 (by decide)).trans ((f32 40 (by decide)).trans (rfl))))) (by rw [show σ49 30 = σ49 30 from (rfl), show σ49 37 = σ49 37 from (rfl), show σ49 38 = σ49 38 from (rfl), show σ49 39 = σ49 39 from (rfl)]; exact pe_LO_to x49 (by omega) (by omega) (by omega)) (by rw [show σ49 29 1 = σ 29 1 by omega, show σ49 30 = σ 30 from ((f49 30 (by decide)).trans ((f37 30 (by decide)).trans ((f32 30 (by decide)).trans (hfr 30 (by decide)))))]; exact hN) (by omega)) (fun σ103 hz103 => ?_)
            obtain ⟨hB, f103, x103⟩ := hz103
            try have u103_0 : σ103 29 1 = σ49 29 1 := by first | exact o103 1 (by decide) | exact congrFun (f103 29 (by decide)) 1
            try have u103_1 : σ103 29 2 = σ49 29 2 := by first | exact o103 2 (by decide) | exact congrFun (f103 29 (by decide)) 2
            try have u103_2 : σ103 29 3 = σ49 29 3 := by first | exact o103 3 (by decide) | exact congrFun (f103 29 (by decide)) 3
            try have u103_3 : σ103 29 7 = σ49 29 7 := by first | exact o103 7 (by decide) | exact congrFun (f103 29 (by decide)) 7
            try have u103_4 : σ103 29 21 = σ49 29 21 := by first | exact o103 21 (by decide) | exact congrFun (f103 29 (by decide)) 21
            try have u103_5 : σ103 29 22 = σ49 29 22 := by first | exact o103 22 (by decide) | exact congrFun (f103 29 (by decide)) 22
            try have u103_6 : σ103 29 27 = σ49 29 27 := by first | exact o103 27 (by decide) | exact congrFun (f103 29 (by decide)) 27
            try have u103_7 : σ103 29 5 = σ49 29 5 := by first | exact o103 5 (by decide) | exact congrFun (f103 29 (by decide)) 5
            try have u103_8 : σ103 29 26 = σ49 29 26 := by first | exact o103 26 (by decide) | exact congrFun (f103 29 (by decide)) 26
            try have u103_9 : σ103 29 30 = σ49 29 30 := by first | exact o103 30 (by decide) | exact congrFun (f103 29 (by decide)) 30
            try have u103_10 : σ103 29 31 = σ49 29 31 := by first | exact o103 31 (by decide) | exact congrFun (f103 29 (by decide)) 31
            refine pe_aload_n d_M_compose_106 rfl ?_
            refine pe_v0v d_M_compose_107 c_M_247 i_M_fillStatus s_M_fillStatus rfl rfl (t_M_fillStatus hB (pe_ME_to hM0 (by omega) (by omega) (by omega) (by omega) (by omega) ((f103 30 (by decide)).trans ((f49 30 (by decide)).trans ((f37 30 (by decide)).trans ((f32 30 (by decide)).trans (hfr 30 (by decide)))))) ((f103 31 (by decide)).trans ((f49 31 (by decide)).trans ((f37 31 (by decide)).trans ((f32 31 (by decide)).trans (hfr 31 (by decide)))))) ((f103 36 (by decide)).trans ((f49 36 (by decide)).trans ((f37 36 (by decide)).trans ((f32 36 (by decide)).trans (hfr 36 (by decide)))))) ((f103 32 (by decide)).trans ((f49 32 (by decide)).trans ((f37 32 (by decide)).trans ((f32 32 (by decide)).trans (hfr 32 (by decide)))))) ((f103 33 (by decide)).trans ((f49 33 (by decide)).trans ((f37 33 (by decide)).trans ((f32 33 (by decide)).trans (hfr 33 (by decide)))))) ((f103 34 (by decide)).trans ((f49 34 (by decide)).trans ((f37 34 (by decide)).trans ((f32 34 (by decide)).trans (hfr 34 (by decide)))))) ((f103 35 (by decide)).trans ((f49 35 (by decide)).trans ((f37 35 (by decide)).trans ((f32 35 (by decide)).trans (hfr 35 (by decide))))))) (by omega) x103 (by rw [show σ103 30 = σ49 30 from ((f103 30 (by decide)).trans (rfl)), show σ103 37 = σ49 37 from ((f103 37 (by decide)).trans (rfl)), show σ103 38 = σ49 38 from ((f103 38 (by decide)).trans (rfl)), show σ103 39 = σ49 39 from ((f103 39 (by decide)).trans (rfl))]; exact pe_LO_to x49 (by omega) (by omega) (by omega))) (fun σ107 hz107 => ?_)
            obtain ⟨hB, f107, x107⟩ := hz107
            try have u107_0 : σ107 29 1 = σ103 29 1 := by first | exact o107 1 (by decide) | exact congrFun (f107 29 (by decide)) 1
            try have u107_1 : σ107 29 2 = σ103 29 2 := by first | exact o107 2 (by decide) | exact congrFun (f107 29 (by decide)) 2
            try have u107_2 : σ107 29 3 = σ103 29 3 := by first | exact o107 3 (by decide) | exact congrFun (f107 29 (by decide)) 3
            try have u107_3 : σ107 29 7 = σ103 29 7 := by first | exact o107 7 (by decide) | exact congrFun (f107 29 (by decide)) 7
            try have u107_4 : σ107 29 21 = σ103 29 21 := by first | exact o107 21 (by decide) | exact congrFun (f107 29 (by decide)) 21
            try have u107_5 : σ107 29 22 = σ103 29 22 := by first | exact o107 22 (by decide) | exact congrFun (f107 29 (by decide)) 22
            try have u107_6 : σ107 29 27 = σ103 29 27 := by first | exact o107 27 (by decide) | exact congrFun (f107 29 (by decide)) 27
            try have u107_7 : σ107 29 5 = σ103 29 5 := by first | exact o107 5 (by decide) | exact congrFun (f107 29 (by decide)) 5
            try have u107_8 : σ107 29 26 = σ103 29 26 := by first | exact o107 26 (by decide) | exact congrFun (f107 29 (by decide)) 26
            try have u107_9 : σ107 29 30 = σ103 29 30 := by first | exact o107 30 (by decide) | exact congrFun (f107 29 (by decide)) 30
            try have u107_10 : σ107 29 31 = σ103 29 31 := by first | exact o107 31 (by decide) | exact congrFun (f107 29 (by decide)) 31
            refine pe_aload_n d_M_compose_110 rfl ?_
            refine pe_iload_n d_M_compose_111 rfl ?_
            refine pe_aload_n d_M_compose_112 rfl ?_
            refine pe_geti f_M_222 d_M_compose_113 rfl rfl 27 rfl ?_
            refine pe_isub d_M_compose_116 ?_
            refine pe_putiT f_M_234 g_11_30 d_M_compose_117 rfl rfl 30 rfl hB (by first | exact hB _ _ | exact hB0 _ _ | exact hBt _ _ | exact ⟨by omega, by omega⟩) (fun σ117 hB e117 o117 f117 => ?_)
            try have u117_0 : σ117 29 1 = σ107 29 1 := by first | exact o117 1 (by decide) | exact congrFun (f117 29 (by decide)) 1
            try have u117_1 : σ117 29 2 = σ107 29 2 := by first | exact o117 2 (by decide) | exact congrFun (f117 29 (by decide)) 2
            try have u117_2 : σ117 29 3 = σ107 29 3 := by first | exact o117 3 (by decide) | exact congrFun (f117 29 (by decide)) 3
            try have u117_3 : σ117 29 7 = σ107 29 7 := by first | exact o117 7 (by decide) | exact congrFun (f117 29 (by decide)) 7
            try have u117_4 : σ117 29 21 = σ107 29 21 := by first | exact o117 21 (by decide) | exact congrFun (f117 29 (by decide)) 21
            try have u117_5 : σ117 29 22 = σ107 29 22 := by first | exact o117 22 (by decide) | exact congrFun (f117 29 (by decide)) 22
            try have u117_6 : σ117 29 27 = σ107 29 27 := by first | exact o117 27 (by decide) | exact congrFun (f117 29 (by decide)) 27
            try have u117_7 : σ117 29 5 = σ107 29 5 := by first | exact o117 5 (by decide) | exact congrFun (f117 29 (by decide)) 5
            try have u117_8 : σ117 29 26 = σ107 29 26 := by first | exact o117 26 (by decide) | exact congrFun (f117 29 (by decide)) 26
            try have u117_9 : σ117 29 30 = σ107 29 30 := by first | exact o117 30 (by decide) | exact congrFun (f117 29 (by decide)) 30
            try have u117_10 : σ117 29 31 = σ107 29 31 := by first | exact o117 31 (by decide) | exact congrFun (f117 29 (by decide)) 31
            refine pe_aload_n d_M_compose_120 rfl ?_
            refine pe_aload_n d_M_compose_121 rfl ?_
            refine pe_getr f_M_44 d_M_compose_122 rfl rfl ?_
            refine pe_aload_n d_M_compose_125 rfl ?_
            refine pe_geti f_M_117 d_M_compose_126 rfl rfl 2 rfl ?_
            refine pe_iald d_M_compose_129 rfl (by omega) (by omega) ?_
            have lo9 : σ117 38 (σ117 29 2) = σ49 38 (σ49 29 2) := by rw [show σ117 29 2 = σ49 29 2 by omega, show σ117 38 = σ49 38 from ((f117 38 (by decide)).trans ((f107 38 (by decide)).trans ((f103 38 (by decide)).trans (rfl))))]
            refine pe_putiT f_M_237 g_11_31 d_M_compose_130 rfl rfl 31 rfl hB (by first | exact hB _ _ | exact hB0 _ _ | exact hBt _ _ | exact ⟨by omega, by omega⟩) (fun σ130 hB e130 o130 f130 => ?_)
            try have u130_0 : σ130 29 1 = σ117 29 1 := by first | exact o130 1 (by decide) | exact congrFun (f130 29 (by decide)) 1
            try have u130_1 : σ130 29 2 = σ117 29 2 := by first | exact o130 2 (by decide) | exact congrFun (f130 29 (by decide)) 2
            try have u130_2 : σ130 29 3 = σ117 29 3 := by first | exact o130 3 (by decide) | exact congrFun (f130 29 (by decide)) 3
            try have u130_3 : σ130 29 7 = σ117 29 7 := by first | exact o130 7 (by decide) | exact congrFun (f130 29 (by decide)) 7
            try have u130_4 : σ130 29 21 = σ117 29 21 := by first | exact o130 21 (by decide) | exact congrFun (f130 29 (by decide)) 21
            try have u130_5 : σ130 29 22 = σ117 29 22 := by first | exact o130 22 (by decide) | exact congrFun (f130 29 (by decide)) 22
            try have u130_6 : σ130 29 27 = σ117 29 27 := by first | exact o130 27 (by decide) | exact congrFun (f130 29 (by decide)) 27
            try have u130_7 : σ130 29 5 = σ117 29 5 := by first | exact o130 5 (by decide) | exact congrFun (f130 29 (by decide)) 5
            try have u130_8 : σ130 29 26 = σ117 29 26 := by first | exact o130 26 (by decide) | exact congrFun (f130 29 (by decide)) 26
            try have u130_9 : σ130 29 30 = σ117 29 30 := by first | exact o130 30 (by decide) | exact congrFun (f130 29 (by decide)) 30
            try have u130_10 : σ130 29 31 = σ117 29 31 := by first | exact o130 31 (by decide) | exact congrFun (f130 29 (by decide)) 31
            refine pe_rv d_M_compose_133 ?_
            exact ⟨hB, (fun b hb => (f130 b (by simp at hb ⊢; try omega)).trans ((f117 b (by simp at hb ⊢; try omega)).trans ((f107 b (by simp at hb ⊢; try omega)).trans ((f103 b (by simp at hb ⊢; try omega)).trans ((f49 b (by simp at hb ⊢; try omega)).trans ((f37 b (by simp at hb ⊢; try omega)).trans ((f32 b (by simp at hb ⊢; try omega)).trans (hfr b (by simp at hb ⊢; try omega))))))))), (fun j hj => (o130 j (by simp at hj ⊢; try omega)).trans ((o117 j (by simp at hj ⊢; try omega)).trans ((congrFun (f107 29 (by decide)) j).trans ((congrFun (f103 29 (by decide)) j).trans ((o49 j (by simp at hj ⊢; try omega)).trans ((o37 j (by simp at hj ⊢; try omega)).trans ((o32 j (by simp at hj ⊢; try omega)).trans (congrFun (hfr 29 (by decide)) j)))))))), pe_DW_to x107 (by omega) (by omega) ((f130 40 (by decide)).trans ((f117 40 (by decide)).trans (rfl))), by omega, by omega⟩
          · skip
            refine pe_aload_n d_M_compose_90 rfl ?_
            refine pe_iload_n d_M_compose_91 rfl ?_
            refine pe_aload_n d_M_compose_92 rfl ?_
            refine pe_geti f_M_81 d_M_compose_93 rfl rfl 22 rfl ?_
            refine pe_iconst d_M_compose_96 ?_
            refine pe_isub d_M_compose_97 ?_
            refine pe_isub d_M_compose_98 ?_
            refine pe_putiT f_M_222 g_11_27 d_M_compose_99 rfl rfl 27 rfl hB (by first | exact hB _ _ | exact hB0 _ _ | exact hBt _ _ | exact ⟨by omega, by omega⟩) (fun σ99 hB e99 o99 f99 => ?_)
            try have u99_0 : σ99 29 1 = σ49 29 1 := by first | exact o99 1 (by decide) | exact congrFun (f99 29 (by decide)) 1
            try have u99_1 : σ99 29 2 = σ49 29 2 := by first | exact o99 2 (by decide) | exact congrFun (f99 29 (by decide)) 2
            try have u99_2 : σ99 29 3 = σ49 29 3 := by first | exact o99 3 (by decide) | exact congrFun (f99 29 (by decide)) 3
            try have u99_3 : σ99 29 7 = σ49 29 7 := by first | exact o99 7 (by decide) | exact congrFun (f99 29 (by decide)) 7
            try have u99_4 : σ99 29 21 = σ49 29 21 := by first | exact o99 21 (by decide) | exact congrFun (f99 29 (by decide)) 21
            try have u99_5 : σ99 29 22 = σ49 29 22 := by first | exact o99 22 (by decide) | exact congrFun (f99 29 (by decide)) 22
            try have u99_6 : σ99 29 27 = σ49 29 27 := by first | exact o99 27 (by decide) | exact congrFun (f99 29 (by decide)) 27
            try have u99_7 : σ99 29 5 = σ49 29 5 := by first | exact o99 5 (by decide) | exact congrFun (f99 29 (by decide)) 5
            try have u99_8 : σ99 29 26 = σ49 29 26 := by first | exact o99 26 (by decide) | exact congrFun (f99 29 (by decide)) 26
            try have u99_9 : σ99 29 30 = σ49 29 30 := by first | exact o99 30 (by decide) | exact congrFun (f99 29 (by decide)) 30
            try have u99_10 : σ99 29 31 = σ49 29 31 := by first | exact o99 31 (by decide) | exact congrFun (f99 29 (by decide)) 31
            refine pe_aload_n d_M_compose_102 rfl ?_
            refine pe_v0v d_M_compose_103 c_M_244 i_M_fillText s_M_fillText rfl rfl (t_M_fillText hB (pe_ME_to hM0 (by omega) (by omega) (by omega) (by omega) (by omega) ((f99 30 (by decide)).trans ((f49 30 (by decide)).trans ((f37 30 (by decide)).trans ((f32 30 (by decide)).trans (hfr 30 (by decide)))))) ((f99 31 (by decide)).trans ((f49 31 (by decide)).trans ((f37 31 (by decide)).trans ((f32 31 (by decide)).trans (hfr 31 (by decide)))))) ((f99 36 (by decide)).trans ((f49 36 (by decide)).trans ((f37 36 (by decide)).trans ((f32 36 (by decide)).trans (hfr 36 (by decide)))))) ((f99 32 (by decide)).trans ((f49 32 (by decide)).trans ((f37 32 (by decide)).trans ((f32 32 (by decide)).trans (hfr 32 (by decide)))))) ((f99 33 (by decide)).trans ((f49 33 (by decide)).trans ((f37 33 (by decide)).trans ((f32 33 (by decide)).trans (hfr 33 (by decide)))))) ((f99 34 (by decide)).trans ((f49 34 (by decide)).trans ((f37 34 (by decide)).trans ((f32 34 (by decide)).trans (hfr 34 (by decide)))))) ((f99 35 (by decide)).trans ((f49 35 (by decide)).trans ((f37 35 (by decide)).trans ((f32 35 (by decide)).trans (hfr 35 (by decide))))))) (by omega) (pe_DW_to hD (by omega) (by omega) ((f99 40 (by decide)).trans ((f49 40 (by decide)).trans ((f37 40 (by decide)).trans ((f32 40 (by decide)).trans (rfl)))))) (by rw [show σ99 30 = σ49 30 from ((f99 30 (by decide)).trans (rfl)), show σ99 37 = σ49 37 from ((f99 37 (by decide)).trans (rfl)), show σ99 38 = σ49 38 from ((f99 38 (by decide)).trans (rfl)), show σ99 39 = σ49 39 from ((f99 39 (by decide)).trans (rfl))]; exact pe_LO_to x49 (by omega) (by omega) (by omega)) (by rw [show σ99 29 1 = σ 29 1 by omega, show σ99 30 = σ 30 from ((f99 30 (by decide)).trans ((f49 30 (by decide)).trans ((f37 30 (by decide)).trans ((f32 30 (by decide)).trans (hfr 30 (by decide))))))]; exact hN) (by omega)) (fun σ103 hz103 => ?_)
            obtain ⟨hB, f103, x103⟩ := hz103
            try have u103_0 : σ103 29 1 = σ99 29 1 := by first | exact o103 1 (by decide) | exact congrFun (f103 29 (by decide)) 1
            try have u103_1 : σ103 29 2 = σ99 29 2 := by first | exact o103 2 (by decide) | exact congrFun (f103 29 (by decide)) 2
            try have u103_2 : σ103 29 3 = σ99 29 3 := by first | exact o103 3 (by decide) | exact congrFun (f103 29 (by decide)) 3
            try have u103_3 : σ103 29 7 = σ99 29 7 := by first | exact o103 7 (by decide) | exact congrFun (f103 29 (by decide)) 7
            try have u103_4 : σ103 29 21 = σ99 29 21 := by first | exact o103 21 (by decide) | exact congrFun (f103 29 (by decide)) 21
            try have u103_5 : σ103 29 22 = σ99 29 22 := by first | exact o103 22 (by decide) | exact congrFun (f103 29 (by decide)) 22
            try have u103_6 : σ103 29 27 = σ99 29 27 := by first | exact o103 27 (by decide) | exact congrFun (f103 29 (by decide)) 27
            try have u103_7 : σ103 29 5 = σ99 29 5 := by first | exact o103 5 (by decide) | exact congrFun (f103 29 (by decide)) 5
            try have u103_8 : σ103 29 26 = σ99 29 26 := by first | exact o103 26 (by decide) | exact congrFun (f103 29 (by decide)) 26
            try have u103_9 : σ103 29 30 = σ99 29 30 := by first | exact o103 30 (by decide) | exact congrFun (f103 29 (by decide)) 30
            try have u103_10 : σ103 29 31 = σ99 29 31 := by first | exact o103 31 (by decide) | exact congrFun (f103 29 (by decide)) 31
            refine pe_aload_n d_M_compose_106 rfl ?_
            refine pe_v0v d_M_compose_107 c_M_247 i_M_fillStatus s_M_fillStatus rfl rfl (t_M_fillStatus hB (pe_ME_to hM0 (by omega) (by omega) (by omega) (by omega) (by omega) ((f103 30 (by decide)).trans ((f99 30 (by decide)).trans ((f49 30 (by decide)).trans ((f37 30 (by decide)).trans ((f32 30 (by decide)).trans (hfr 30 (by decide))))))) ((f103 31 (by decide)).trans ((f99 31 (by decide)).trans ((f49 31 (by decide)).trans ((f37 31 (by decide)).trans ((f32 31 (by decide)).trans (hfr 31 (by decide))))))) ((f103 36 (by decide)).trans ((f99 36 (by decide)).trans ((f49 36 (by decide)).trans ((f37 36 (by decide)).trans ((f32 36 (by decide)).trans (hfr 36 (by decide))))))) ((f103 32 (by decide)).trans ((f99 32 (by decide)).trans ((f49 32 (by decide)).trans ((f37 32 (by decide)).trans ((f32 32 (by decide)).trans (hfr 32 (by decide))))))) ((f103 33 (by decide)).trans ((f99 33 (by decide)).trans ((f49 33 (by decide)).trans ((f37 33 (by decide)).trans ((f32 33 (by decide)).trans (hfr 33 (by decide))))))) ((f103 34 (by decide)).trans ((f99 34 (by decide)).trans ((f49 34 (by decide)).trans ((f37 34 (by decide)).trans ((f32 34 (by decide)).trans (hfr 34 (by decide))))))) ((f103 35 (by decide)).trans ((f99 35 (by decide)).trans ((f49 35 (by decide)).trans ((f37 35 (by decide)).trans ((f32 35 (by decide)).trans (hfr 35 (by decide)))))))) (by omega) x103 (by rw [show σ103 30 = σ49 30 from ((f103 30 (by decide)).trans ((f99 30 (by decide)).trans (rfl))), show σ103 37 = σ49 37 from ((f103 37 (by decide)).trans ((f99 37 (by decide)).trans (rfl))), show σ103 38 = σ49 38 from ((f103 38 (by decide)).trans ((f99 38 (by decide)).trans (rfl))), show σ103 39 = σ49 39 from ((f103 39 (by decide)).trans ((f99 39 (by decide)).trans (rfl)))]; exact pe_LO_to x49 (by omega) (by omega) (by omega))) (fun σ107 hz107 => ?_)
            obtain ⟨hB, f107, x107⟩ := hz107
            try have u107_0 : σ107 29 1 = σ103 29 1 := by first | exact o107 1 (by decide) | exact congrFun (f107 29 (by decide)) 1
            try have u107_1 : σ107 29 2 = σ103 29 2 := by first | exact o107 2 (by decide) | exact congrFun (f107 29 (by decide)) 2
            try have u107_2 : σ107 29 3 = σ103 29 3 := by first | exact o107 3 (by decide) | exact congrFun (f107 29 (by decide)) 3
            try have u107_3 : σ107 29 7 = σ103 29 7 := by first | exact o107 7 (by decide) | exact congrFun (f107 29 (by decide)) 7
            try have u107_4 : σ107 29 21 = σ103 29 21 := by first | exact o107 21 (by decide) | exact congrFun (f107 29 (by decide)) 21
            try have u107_5 : σ107 29 22 = σ103 29 22 := by first | exact o107 22 (by decide) | exact congrFun (f107 29 (by decide)) 22
            try have u107_6 : σ107 29 27 = σ103 29 27 := by first | exact o107 27 (by decide) | exact congrFun (f107 29 (by decide)) 27
            try have u107_7 : σ107 29 5 = σ103 29 5 := by first | exact o107 5 (by decide) | exact congrFun (f107 29 (by decide)) 5
            try have u107_8 : σ107 29 26 = σ103 29 26 := by first | exact o107 26 (by decide) | exact congrFun (f107 29 (by decide)) 26
            try have u107_9 : σ107 29 30 = σ103 29 30 := by first | exact o107 30 (by decide) | exact congrFun (f107 29 (by decide)) 30
            try have u107_10 : σ107 29 31 = σ103 29 31 := by first | exact o107 31 (by decide) | exact congrFun (f107 29 (by decide)) 31
            refine pe_aload_n d_M_compose_110 rfl ?_
            refine pe_iload_n d_M_compose_111 rfl ?_
            refine pe_aload_n d_M_compose_112 rfl ?_
            refine pe_geti f_M_222 d_M_compose_113 rfl rfl 27 rfl ?_
            refine pe_isub d_M_compose_116 ?_
            refine pe_putiT f_M_234 g_11_30 d_M_compose_117 rfl rfl 30 rfl hB (by first | exact hB _ _ | exact hB0 _ _ | exact hBt _ _ | exact ⟨by omega, by omega⟩) (fun σ117 hB e117 o117 f117 => ?_)
            try have u117_0 : σ117 29 1 = σ107 29 1 := by first | exact o117 1 (by decide) | exact congrFun (f117 29 (by decide)) 1
            try have u117_1 : σ117 29 2 = σ107 29 2 := by first | exact o117 2 (by decide) | exact congrFun (f117 29 (by decide)) 2
            try have u117_2 : σ117 29 3 = σ107 29 3 := by first | exact o117 3 (by decide) | exact congrFun (f117 29 (by decide)) 3
            try have u117_3 : σ117 29 7 = σ107 29 7 := by first | exact o117 7 (by decide) | exact congrFun (f117 29 (by decide)) 7
            try have u117_4 : σ117 29 21 = σ107 29 21 := by first | exact o117 21 (by decide) | exact congrFun (f117 29 (by decide)) 21
            try have u117_5 : σ117 29 22 = σ107 29 22 := by first | exact o117 22 (by decide) | exact congrFun (f117 29 (by decide)) 22
            try have u117_6 : σ117 29 27 = σ107 29 27 := by first | exact o117 27 (by decide) | exact congrFun (f117 29 (by decide)) 27
            try have u117_7 : σ117 29 5 = σ107 29 5 := by first | exact o117 5 (by decide) | exact congrFun (f117 29 (by decide)) 5
            try have u117_8 : σ117 29 26 = σ107 29 26 := by first | exact o117 26 (by decide) | exact congrFun (f117 29 (by decide)) 26
            try have u117_9 : σ117 29 30 = σ107 29 30 := by first | exact o117 30 (by decide) | exact congrFun (f117 29 (by decide)) 30
            try have u117_10 : σ117 29 31 = σ107 29 31 := by first | exact o117 31 (by decide) | exact congrFun (f117 29 (by decide)) 31
            refine pe_aload_n d_M_compose_120 rfl ?_
            refine pe_aload_n d_M_compose_121 rfl ?_
            refine pe_getr f_M_44 d_M_compose_122 rfl rfl ?_
            refine pe_aload_n d_M_compose_125 rfl ?_
            refine pe_geti f_M_117 d_M_compose_126 rfl rfl 2 rfl ?_
            refine pe_iald d_M_compose_129 rfl (by omega) (by omega) ?_
            have lo9 : σ117 38 (σ117 29 2) = σ49 38 (σ49 29 2) := by rw [show σ117 29 2 = σ49 29 2 by omega, show σ117 38 = σ49 38 from ((f117 38 (by decide)).trans ((f107 38 (by decide)).trans ((f103 38 (by decide)).trans ((f99 38 (by decide)).trans (rfl)))))]
            refine pe_putiT f_M_237 g_11_31 d_M_compose_130 rfl rfl 31 rfl hB (by first | exact hB _ _ | exact hB0 _ _ | exact hBt _ _ | exact ⟨by omega, by omega⟩) (fun σ130 hB e130 o130 f130 => ?_)
            try have u130_0 : σ130 29 1 = σ117 29 1 := by first | exact o130 1 (by decide) | exact congrFun (f130 29 (by decide)) 1
            try have u130_1 : σ130 29 2 = σ117 29 2 := by first | exact o130 2 (by decide) | exact congrFun (f130 29 (by decide)) 2
            try have u130_2 : σ130 29 3 = σ117 29 3 := by first | exact o130 3 (by decide) | exact congrFun (f130 29 (by decide)) 3
            try have u130_3 : σ130 29 7 = σ117 29 7 := by first | exact o130 7 (by decide) | exact congrFun (f130 29 (by decide)) 7
            try have u130_4 : σ130 29 21 = σ117 29 21 := by first | exact o130 21 (by decide) | exact congrFun (f130 29 (by decide)) 21
            try have u130_5 : σ130 29 22 = σ117 29 22 := by first | exact o130 22 (by decide) | exact congrFun (f130 29 (by decide)) 22
            try have u130_6 : σ130 29 27 = σ117 29 27 := by first | exact o130 27 (by decide) | exact congrFun (f130 29 (by decide)) 27
            try have u130_7 : σ130 29 5 = σ117 29 5 := by first | exact o130 5 (by decide) | exact congrFun (f130 29 (by decide)) 5
            try have u130_8 : σ130 29 26 = σ117 29 26 := by first | exact o130 26 (by decide) | exact congrFun (f130 29 (by decide)) 26
            try have u130_9 : σ130 29 30 = σ117 29 30 := by first | exact o130 30 (by decide) | exact congrFun (f130 29 (by decide)) 30
            try have u130_10 : σ130 29 31 = σ117 29 31 := by first | exact o130 31 (by decide) | exact congrFun (f130 29 (by decide)) 31
            refine pe_rv d_M_compose_133 ?_
            exact ⟨hB, (fun b hb => (f130 b (by simp at hb ⊢; try omega)).trans ((f117 b (by simp at hb ⊢; try omega)).trans ((f107 b (by simp at hb ⊢; try omega)).trans ((f103 b (by simp at hb ⊢; try omega)).trans ((f99 b (by simp at hb ⊢; try omega)).trans ((f49 b (by simp at hb ⊢; try omega)).trans ((f37 b (by simp at hb ⊢; try omega)).trans ((f32 b (by simp at hb ⊢; try omega)).trans (hfr b (by simp at hb ⊢; try omega)))))))))), (fun j hj => (o130 j (by simp at hj ⊢; try omega)).trans ((o117 j (by simp at hj ⊢; try omega)).trans ((congrFun (f107 29 (by decide)) j).trans ((congrFun (f103 29 (by decide)) j).trans ((o99 j (by simp at hj ⊢; try omega)).trans ((o49 j (by simp at hj ⊢; try omega)).trans ((o37 j (by simp at hj ⊢; try omega)).trans ((o32 j (by simp at hj ⊢; try omega)).trans (congrFun (hfr 29 (by decide)) j))))))))), pe_DW_to x107 (by omega) (by omega) ((f130 40 (by decide)).trans ((f117 40 (by decide)).trans (rfl))), by omega, by omega⟩
        · skip
          refine pe_aload_n d_M_compose_70 rfl ?_
          refine pe_iload_n d_M_compose_71 rfl ?_
          refine pe_putiT f_M_222 g_11_27 d_M_compose_72 rfl rfl 27 rfl hB (by first | exact hB _ _ | exact hB0 _ _ | exact hBt _ _ | exact ⟨by omega, by omega⟩) (fun σ72 hB e72 o72 f72 => ?_)
          try have u72_0 : σ72 29 1 = σ49 29 1 := by first | exact o72 1 (by decide) | exact congrFun (f72 29 (by decide)) 1
          try have u72_1 : σ72 29 2 = σ49 29 2 := by first | exact o72 2 (by decide) | exact congrFun (f72 29 (by decide)) 2
          try have u72_2 : σ72 29 3 = σ49 29 3 := by first | exact o72 3 (by decide) | exact congrFun (f72 29 (by decide)) 3
          try have u72_3 : σ72 29 7 = σ49 29 7 := by first | exact o72 7 (by decide) | exact congrFun (f72 29 (by decide)) 7
          try have u72_4 : σ72 29 21 = σ49 29 21 := by first | exact o72 21 (by decide) | exact congrFun (f72 29 (by decide)) 21
          try have u72_5 : σ72 29 22 = σ49 29 22 := by first | exact o72 22 (by decide) | exact congrFun (f72 29 (by decide)) 22
          try have u72_6 : σ72 29 27 = σ49 29 27 := by first | exact o72 27 (by decide) | exact congrFun (f72 29 (by decide)) 27
          try have u72_7 : σ72 29 5 = σ49 29 5 := by first | exact o72 5 (by decide) | exact congrFun (f72 29 (by decide)) 5
          try have u72_8 : σ72 29 26 = σ49 29 26 := by first | exact o72 26 (by decide) | exact congrFun (f72 29 (by decide)) 26
          try have u72_9 : σ72 29 30 = σ49 29 30 := by first | exact o72 30 (by decide) | exact congrFun (f72 29 (by decide)) 30
          try have u72_10 : σ72 29 31 = σ49 29 31 := by first | exact o72 31 (by decide) | exact congrFun (f72 29 (by decide)) 31
          refine pe_iload_n d_M_compose_75 rfl ?_
          refine pe_aload_n d_M_compose_76 rfl ?_
          refine pe_geti f_M_222 d_M_compose_77 rfl rfl 27 rfl ?_
          refine pe_aload_n d_M_compose_80 rfl ?_
          refine pe_geti f_M_81 d_M_compose_81 rfl rfl 22 rfl ?_
          refine pe_iadd d_M_compose_84 ?_
          refine pe_iconst d_M_compose_85 ?_
          refine pe_isub d_M_compose_86 ?_
          refine pe_icmp_lt (t := 102) d_M_compose_87 (by first | exact hB _ _ | exact hB0 _ _ | exact hBt _ _ | exact ⟨by omega, by omega⟩) (by first | exact hB _ _ | exact hB0 _ _ | exact hBt _ _ | exact ⟨by omega, by omega⟩) (fun h87 => ?_) (fun h87 => ?_)
          · skip
            refine pe_aload_n d_M_compose_102 rfl ?_
            refine pe_v0v d_M_compose_103 c_M_244 i_M_fillText s_M_fillText rfl rfl (t_M_fillText hB (pe_ME_to hM0 (by omega) (by omega) (by omega) (by omega) (by omega) ((f72 30 (by decide)).trans ((f49 30 (by decide)).trans ((f37 30 (by decide)).trans ((f32 30 (by decide)).trans (hfr 30 (by decide)))))) ((f72 31 (by decide)).trans ((f49 31 (by decide)).trans ((f37 31 (by decide)).trans ((f32 31 (by decide)).trans (hfr 31 (by decide)))))) ((f72 36 (by decide)).trans ((f49 36 (by decide)).trans ((f37 36 (by decide)).trans ((f32 36 (by decide)).trans (hfr 36 (by decide)))))) ((f72 32 (by decide)).trans ((f49 32 (by decide)).trans ((f37 32 (by decide)).trans ((f32 32 (by decide)).trans (hfr 32 (by decide)))))) ((f72 33 (by decide)).trans ((f49 33 (by decide)).trans ((f37 33 (by decide)).trans ((f32 33 (by decide)).trans (hfr 33 (by decide)))))) ((f72 34 (by decide)).trans ((f49 34 (by decide)).trans ((f37 34 (by decide)).trans ((f32 34 (by decide)).trans (hfr 34 (by decide)))))) ((f72 35 (by decide)).trans ((f49 35 (by decide)).trans ((f37 35 (by decide)).trans ((f32 35 (by decide)).trans (hfr 35 (by decide))))))) (by omega) (pe_DW_to hD (by omega) (by omega) ((f72 40 (by decide)).trans ((f49 40 (by decide)).trans ((f37 40 (by decide)).trans ((f32 40 (by decide)).trans (rfl)))))) (by rw [show σ72 30 = σ49 30 from ((f72 30 (by decide)).trans (rfl)), show σ72 37 = σ49 37 from ((f72 37 (by decide)).trans (rfl)), show σ72 38 = σ49 38 from ((f72 38 (by decide)).trans (rfl)), show σ72 39 = σ49 39 from ((f72 39 (by decide)).trans (rfl))]; exact pe_LO_to x49 (by omega) (by omega) (by omega)) (by rw [show σ72 29 1 = σ 29 1 by omega, show σ72 30 = σ 30 from ((f72 30 (by decide)).trans ((f49 30 (by decide)).trans ((f37 30 (by decide)).trans ((f32 30 (by decide)).trans (hfr 30 (by decide))))))]; exact hN) (by omega)) (fun σ103 hz103 => ?_)
            obtain ⟨hB, f103, x103⟩ := hz103
            try have u103_0 : σ103 29 1 = σ72 29 1 := by first | exact o103 1 (by decide) | exact congrFun (f103 29 (by decide)) 1
            try have u103_1 : σ103 29 2 = σ72 29 2 := by first | exact o103 2 (by decide) | exact congrFun (f103 29 (by decide)) 2
            try have u103_2 : σ103 29 3 = σ72 29 3 := by first | exact o103 3 (by decide) | exact congrFun (f103 29 (by decide)) 3
            try have u103_3 : σ103 29 7 = σ72 29 7 := by first | exact o103 7 (by decide) | exact congrFun (f103 29 (by decide)) 7
            try have u103_4 : σ103 29 21 = σ72 29 21 := by first | exact o103 21 (by decide) | exact congrFun (f103 29 (by decide)) 21
            try have u103_5 : σ103 29 22 = σ72 29 22 := by first | exact o103 22 (by decide) | exact congrFun (f103 29 (by decide)) 22
            try have u103_6 : σ103 29 27 = σ72 29 27 := by first | exact o103 27 (by decide) | exact congrFun (f103 29 (by decide)) 27
            try have u103_7 : σ103 29 5 = σ72 29 5 := by first | exact o103 5 (by decide) | exact congrFun (f103 29 (by decide)) 5
            try have u103_8 : σ103 29 26 = σ72 29 26 := by first | exact o103 26 (by decide) | exact congrFun (f103 29 (by decide)) 26
            try have u103_9 : σ103 29 30 = σ72 29 30 := by first | exact o103 30 (by decide) | exact congrFun (f103 29 (by decide)) 30
            try have u103_10 : σ103 29 31 = σ72 29 31 := by first | exact o103 31 (by decide) | exact congrFun (f103 29 (by decide)) 31
            refine pe_aload_n d_M_compose_106 rfl ?_
            refine pe_v0v d_M_compose_107 c_M_247 i_M_fillStatus s_M_fillStatus rfl rfl (t_M_fillStatus hB (pe_ME_to hM0 (by omega) (by omega) (by omega) (by omega) (by omega) ((f103 30 (by decide)).trans ((f72 30 (by decide)).trans ((f49 30 (by decide)).trans ((f37 30 (by decide)).trans ((f32 30 (by decide)).trans (hfr 30 (by decide))))))) ((f103 31 (by decide)).trans ((f72 31 (by decide)).trans ((f49 31 (by decide)).trans ((f37 31 (by decide)).trans ((f32 31 (by decide)).trans (hfr 31 (by decide))))))) ((f103 36 (by decide)).trans ((f72 36 (by decide)).trans ((f49 36 (by decide)).trans ((f37 36 (by decide)).trans ((f32 36 (by decide)).trans (hfr 36 (by decide))))))) ((f103 32 (by decide)).trans ((f72 32 (by decide)).trans ((f49 32 (by decide)).trans ((f37 32 (by decide)).trans ((f32 32 (by decide)).trans (hfr 32 (by decide))))))) ((f103 33 (by decide)).trans ((f72 33 (by decide)).trans ((f49 33 (by decide)).trans ((f37 33 (by decide)).trans ((f32 33 (by decide)).trans (hfr 33 (by decide))))))) ((f103 34 (by decide)).trans ((f72 34 (by decide)).trans ((f49 34 (by decide)).trans ((f37 34 (by decide)).trans ((f32 34 (by decide)).trans (hfr 34 (by decide))))))) ((f103 35 (by decide)).trans ((f72 35 (by decide)).trans ((f49 35 (by decide)).trans ((f37 35 (by decide)).trans ((f32 35 (by decide)).trans (hfr 35 (by decide)))))))) (by omega) x103 (by rw [show σ103 30 = σ49 30 from ((f103 30 (by decide)).trans ((f72 30 (by decide)).trans (rfl))), show σ103 37 = σ49 37 from ((f103 37 (by decide)).trans ((f72 37 (by decide)).trans (rfl))), show σ103 38 = σ49 38 from ((f103 38 (by decide)).trans ((f72 38 (by decide)).trans (rfl))), show σ103 39 = σ49 39 from ((f103 39 (by decide)).trans ((f72 39 (by decide)).trans (rfl)))]; exact pe_LO_to x49 (by omega) (by omega) (by omega))) (fun σ107 hz107 => ?_)
            obtain ⟨hB, f107, x107⟩ := hz107
            try have u107_0 : σ107 29 1 = σ103 29 1 := by first | exact o107 1 (by decide) | exact congrFun (f107 29 (by decide)) 1
            try have u107_1 : σ107 29 2 = σ103 29 2 := by first | exact o107 2 (by decide) | exact congrFun (f107 29 (by decide)) 2
            try have u107_2 : σ107 29 3 = σ103 29 3 := by first | exact o107 3 (by decide) | exact congrFun (f107 29 (by decide)) 3
            try have u107_3 : σ107 29 7 = σ103 29 7 := by first | exact o107 7 (by decide) | exact congrFun (f107 29 (by decide)) 7
            try have u107_4 : σ107 29 21 = σ103 29 21 := by first | exact o107 21 (by decide) | exact congrFun (f107 29 (by decide)) 21
            try have u107_5 : σ107 29 22 = σ103 29 22 := by first | exact o107 22 (by decide) | exact congrFun (f107 29 (by decide)) 22
            try have u107_6 : σ107 29 27 = σ103 29 27 := by first | exact o107 27 (by decide) | exact congrFun (f107 29 (by decide)) 27
            try have u107_7 : σ107 29 5 = σ103 29 5 := by first | exact o107 5 (by decide) | exact congrFun (f107 29 (by decide)) 5
            try have u107_8 : σ107 29 26 = σ103 29 26 := by first | exact o107 26 (by decide) | exact congrFun (f107 29 (by decide)) 26
            try have u107_9 : σ107 29 30 = σ103 29 30 := by first | exact o107 30 (by decide) | exact congrFun (f107 29 (by decide)) 30
            try have u107_10 : σ107 29 31 = σ103 29 31 := by first | exact o107 31 (by decide) | exact congrFun (f107 29 (by decide)) 31
            refine pe_aload_n d_M_compose_110 rfl ?_
            refine pe_iload_n d_M_compose_111 rfl ?_
            refine pe_aload_n d_M_compose_112 rfl ?_
            refine pe_geti f_M_222 d_M_compose_113 rfl rfl 27 rfl ?_
            refine pe_isub d_M_compose_116 ?_
            refine pe_putiT f_M_234 g_11_30 d_M_compose_117 rfl rfl 30 rfl hB (by first | exact hB _ _ | exact hB0 _ _ | exact hBt _ _ | exact ⟨by omega, by omega⟩) (fun σ117 hB e117 o117 f117 => ?_)
            try have u117_0 : σ117 29 1 = σ107 29 1 := by first | exact o117 1 (by decide) | exact congrFun (f117 29 (by decide)) 1
            try have u117_1 : σ117 29 2 = σ107 29 2 := by first | exact o117 2 (by decide) | exact congrFun (f117 29 (by decide)) 2
            try have u117_2 : σ117 29 3 = σ107 29 3 := by first | exact o117 3 (by decide) | exact congrFun (f117 29 (by decide)) 3
            try have u117_3 : σ117 29 7 = σ107 29 7 := by first | exact o117 7 (by decide) | exact congrFun (f117 29 (by decide)) 7
            try have u117_4 : σ117 29 21 = σ107 29 21 := by first | exact o117 21 (by decide) | exact congrFun (f117 29 (by decide)) 21
            try have u117_5 : σ117 29 22 = σ107 29 22 := by first | exact o117 22 (by decide) | exact congrFun (f117 29 (by decide)) 22
            try have u117_6 : σ117 29 27 = σ107 29 27 := by first | exact o117 27 (by decide) | exact congrFun (f117 29 (by decide)) 27
            try have u117_7 : σ117 29 5 = σ107 29 5 := by first | exact o117 5 (by decide) | exact congrFun (f117 29 (by decide)) 5
            try have u117_8 : σ117 29 26 = σ107 29 26 := by first | exact o117 26 (by decide) | exact congrFun (f117 29 (by decide)) 26
            try have u117_9 : σ117 29 30 = σ107 29 30 := by first | exact o117 30 (by decide) | exact congrFun (f117 29 (by decide)) 30
            try have u117_10 : σ117 29 31 = σ107 29 31 := by first | exact o117 31 (by decide) | exact congrFun (f117 29 (by decide)) 31
            refine pe_aload_n d_M_compose_120 rfl ?_
            refine pe_aload_n d_M_compose_121 rfl ?_
            refine pe_getr f_M_44 d_M_compose_122 rfl rfl ?_
            refine pe_aload_n d_M_compose_125 rfl ?_
            refine pe_geti f_M_117 d_M_compose_126 rfl rfl 2 rfl ?_
            refine pe_iald d_M_compose_129 rfl (by omega) (by omega) ?_
            have lo9 : σ117 38 (σ117 29 2) = σ49 38 (σ49 29 2) := by rw [show σ117 29 2 = σ49 29 2 by omega, show σ117 38 = σ49 38 from ((f117 38 (by decide)).trans ((f107 38 (by decide)).trans ((f103 38 (by decide)).trans ((f72 38 (by decide)).trans (rfl)))))]
            refine pe_putiT f_M_237 g_11_31 d_M_compose_130 rfl rfl 31 rfl hB (by first | exact hB _ _ | exact hB0 _ _ | exact hBt _ _ | exact ⟨by omega, by omega⟩) (fun σ130 hB e130 o130 f130 => ?_)
            try have u130_0 : σ130 29 1 = σ117 29 1 := by first | exact o130 1 (by decide) | exact congrFun (f130 29 (by decide)) 1
            try have u130_1 : σ130 29 2 = σ117 29 2 := by first | exact o130 2 (by decide) | exact congrFun (f130 29 (by decide)) 2
            try have u130_2 : σ130 29 3 = σ117 29 3 := by first | exact o130 3 (by decide) | exact congrFun (f130 29 (by decide)) 3
            try have u130_3 : σ130 29 7 = σ117 29 7 := by first | exact o130 7 (by decide) | exact congrFun (f130 29 (by decide)) 7
            try have u130_4 : σ130 29 21 = σ117 29 21 := by first | exact o130 21 (by decide) | exact congrFun (f130 29 (by decide)) 21
            try have u130_5 : σ130 29 22 = σ117 29 22 := by first | exact o130 22 (by decide) | exact congrFun (f130 29 (by decide)) 22
            try have u130_6 : σ130 29 27 = σ117 29 27 := by first | exact o130 27 (by decide) | exact congrFun (f130 29 (by decide)) 27
            try have u130_7 : σ130 29 5 = σ117 29 5 := by first | exact o130 5 (by decide) | exact congrFun (f130 29 (by decide)) 5
            try have u130_8 : σ130 29 26 = σ117 29 26 := by first | exact o130 26 (by decide) | exact congrFun (f130 29 (by decide)) 26
            try have u130_9 : σ130 29 30 = σ117 29 30 := by first | exact o130 30 (by decide) | exact congrFun (f130 29 (by decide)) 30
            try have u130_10 : σ130 29 31 = σ117 29 31 := by first | exact o130 31 (by decide) | exact congrFun (f130 29 (by decide)) 31
            refine pe_rv d_M_compose_133 ?_
            exact ⟨hB, (fun b hb => (f130 b (by simp at hb ⊢; try omega)).trans ((f117 b (by simp at hb ⊢; try omega)).trans ((f107 b (by simp at hb ⊢; try omega)).trans ((f103 b (by simp at hb ⊢; try omega)).trans ((f72 b (by simp at hb ⊢; try omega)).trans ((f49 b (by simp at hb ⊢; try omega)).trans ((f37 b (by simp at hb ⊢; try omega)).trans ((f32 b (by simp at hb ⊢; try omega)).trans (hfr b (by simp at hb ⊢; try omega)))))))))), (fun j hj => (o130 j (by simp at hj ⊢; try omega)).trans ((o117 j (by simp at hj ⊢; try omega)).trans ((congrFun (f107 29 (by decide)) j).trans ((congrFun (f103 29 (by decide)) j).trans ((o72 j (by simp at hj ⊢; try omega)).trans ((o49 j (by simp at hj ⊢; try omega)).trans ((o37 j (by simp at hj ⊢; try omega)).trans ((o32 j (by simp at hj ⊢; try omega)).trans (congrFun (hfr 29 (by decide)) j))))))))), pe_DW_to x107 (by omega) (by omega) ((f130 40 (by decide)).trans ((f117 40 (by decide)).trans (rfl))), by omega, by omega⟩
          · skip
            refine pe_aload_n d_M_compose_90 rfl ?_
            refine pe_iload_n d_M_compose_91 rfl ?_
            refine pe_aload_n d_M_compose_92 rfl ?_
            refine pe_geti f_M_81 d_M_compose_93 rfl rfl 22 rfl ?_
            refine pe_iconst d_M_compose_96 ?_
            refine pe_isub d_M_compose_97 ?_
            refine pe_isub d_M_compose_98 ?_
            refine pe_putiT f_M_222 g_11_27 d_M_compose_99 rfl rfl 27 rfl hB (by first | exact hB _ _ | exact hB0 _ _ | exact hBt _ _ | exact ⟨by omega, by omega⟩) (fun σ99 hB e99 o99 f99 => ?_)
            try have u99_0 : σ99 29 1 = σ72 29 1 := by first | exact o99 1 (by decide) | exact congrFun (f99 29 (by decide)) 1
            try have u99_1 : σ99 29 2 = σ72 29 2 := by first | exact o99 2 (by decide) | exact congrFun (f99 29 (by decide)) 2
            try have u99_2 : σ99 29 3 = σ72 29 3 := by first | exact o99 3 (by decide) | exact congrFun (f99 29 (by decide)) 3
            try have u99_3 : σ99 29 7 = σ72 29 7 := by first | exact o99 7 (by decide) | exact congrFun (f99 29 (by decide)) 7
            try have u99_4 : σ99 29 21 = σ72 29 21 := by first | exact o99 21 (by decide) | exact congrFun (f99 29 (by decide)) 21
            try have u99_5 : σ99 29 22 = σ72 29 22 := by first | exact o99 22 (by decide) | exact congrFun (f99 29 (by decide)) 22
            try have u99_6 : σ99 29 27 = σ72 29 27 := by first | exact o99 27 (by decide) | exact congrFun (f99 29 (by decide)) 27
            try have u99_7 : σ99 29 5 = σ72 29 5 := by first | exact o99 5 (by decide) | exact congrFun (f99 29 (by decide)) 5
            try have u99_8 : σ99 29 26 = σ72 29 26 := by first | exact o99 26 (by decide) | exact congrFun (f99 29 (by decide)) 26
            try have u99_9 : σ99 29 30 = σ72 29 30 := by first | exact o99 30 (by decide) | exact congrFun (f99 29 (by decide)) 30
            try have u99_10 : σ99 29 31 = σ72 29 31 := by first | exact o99 31 (by decide) | exact congrFun (f99 29 (by decide)) 31
            refine pe_aload_n d_M_compose_102 rfl ?_
            refine pe_v0v d_M_compose_103 c_M_244 i_M_fillText s_M_fillText rfl rfl (t_M_fillText hB (pe_ME_to hM0 (by omega) (by omega) (by omega) (by omega) (by omega) ((f99 30 (by decide)).trans ((f72 30 (by decide)).trans ((f49 30 (by decide)).trans ((f37 30 (by decide)).trans ((f32 30 (by decide)).trans (hfr 30 (by decide))))))) ((f99 31 (by decide)).trans ((f72 31 (by decide)).trans ((f49 31 (by decide)).trans ((f37 31 (by decide)).trans ((f32 31 (by decide)).trans (hfr 31 (by decide))))))) ((f99 36 (by decide)).trans ((f72 36 (by decide)).trans ((f49 36 (by decide)).trans ((f37 36 (by decide)).trans ((f32 36 (by decide)).trans (hfr 36 (by decide))))))) ((f99 32 (by decide)).trans ((f72 32 (by decide)).trans ((f49 32 (by decide)).trans ((f37 32 (by decide)).trans ((f32 32 (by decide)).trans (hfr 32 (by decide))))))) ((f99 33 (by decide)).trans ((f72 33 (by decide)).trans ((f49 33 (by decide)).trans ((f37 33 (by decide)).trans ((f32 33 (by decide)).trans (hfr 33 (by decide))))))) ((f99 34 (by decide)).trans ((f72 34 (by decide)).trans ((f49 34 (by decide)).trans ((f37 34 (by decide)).trans ((f32 34 (by decide)).trans (hfr 34 (by decide))))))) ((f99 35 (by decide)).trans ((f72 35 (by decide)).trans ((f49 35 (by decide)).trans ((f37 35 (by decide)).trans ((f32 35 (by decide)).trans (hfr 35 (by decide)))))))) (by omega) (pe_DW_to hD (by omega) (by omega) ((f99 40 (by decide)).trans ((f72 40 (by decide)).trans ((f49 40 (by decide)).trans ((f37 40 (by decide)).trans ((f32 40 (by decide)).trans (rfl))))))) (by rw [show σ99 30 = σ49 30 from ((f99 30 (by decide)).trans ((f72 30 (by decide)).trans (rfl))), show σ99 37 = σ49 37 from ((f99 37 (by decide)).trans ((f72 37 (by decide)).trans (rfl))), show σ99 38 = σ49 38 from ((f99 38 (by decide)).trans ((f72 38 (by decide)).trans (rfl))), show σ99 39 = σ49 39 from ((f99 39 (by decide)).trans ((f72 39 (by decide)).trans (rfl)))]; exact pe_LO_to x49 (by omega) (by omega) (by omega)) (by rw [show σ99 29 1 = σ 29 1 by omega, show σ99 30 = σ 30 from ((f99 30 (by decide)).trans ((f72 30 (by decide)).trans ((f49 30 (by decide)).trans ((f37 30 (by decide)).trans ((f32 30 (by decide)).trans (hfr 30 (by decide)))))))]; exact hN) (by omega)) (fun σ103 hz103 => ?_)
            obtain ⟨hB, f103, x103⟩ := hz103
            try have u103_0 : σ103 29 1 = σ99 29 1 := by first | exact o103 1 (by decide) | exact congrFun (f103 29 (by decide)) 1
            try have u103_1 : σ103 29 2 = σ99 29 2 := by first | exact o103 2 (by decide) | exact congrFun (f103 29 (by decide)) 2
            try have u103_2 : σ103 29 3 = σ99 29 3 := by first | exact o103 3 (by decide) | exact congrFun (f103 29 (by decide)) 3
            try have u103_3 : σ103 29 7 = σ99 29 7 := by first | exact o103 7 (by decide) | exact congrFun (f103 29 (by decide)) 7
            try have u103_4 : σ103 29 21 = σ99 29 21 := by first | exact o103 21 (by decide) | exact congrFun (f103 29 (by decide)) 21
            try have u103_5 : σ103 29 22 = σ99 29 22 := by first | exact o103 22 (by decide) | exact congrFun (f103 29 (by decide)) 22
            try have u103_6 : σ103 29 27 = σ99 29 27 := by first | exact o103 27 (by decide) | exact congrFun (f103 29 (by decide)) 27
            try have u103_7 : σ103 29 5 = σ99 29 5 := by first | exact o103 5 (by decide) | exact congrFun (f103 29 (by decide)) 5
            try have u103_8 : σ103 29 26 = σ99 29 26 := by first | exact o103 26 (by decide) | exact congrFun (f103 29 (by decide)) 26
            try have u103_9 : σ103 29 30 = σ99 29 30 := by first | exact o103 30 (by decide) | exact congrFun (f103 29 (by decide)) 30
            try have u103_10 : σ103 29 31 = σ99 29 31 := by first | exact o103 31 (by decide) | exact congrFun (f103 29 (by decide)) 31
            refine pe_aload_n d_M_compose_106 rfl ?_
            refine pe_v0v d_M_compose_107 c_M_247 i_M_fillStatus s_M_fillStatus rfl rfl (t_M_fillStatus hB (pe_ME_to hM0 (by omega) (by omega) (by omega) (by omega) (by omega) ((f103 30 (by decide)).trans ((f99 30 (by decide)).trans ((f72 30 (by decide)).trans ((f49 30 (by decide)).trans ((f37 30 (by decide)).trans ((f32 30 (by decide)).trans (hfr 30 (by decide)))))))) ((f103 31 (by decide)).trans ((f99 31 (by decide)).trans ((f72 31 (by decide)).trans ((f49 31 (by decide)).trans ((f37 31 (by decide)).trans ((f32 31 (by decide)).trans (hfr 31 (by decide)))))))) ((f103 36 (by decide)).trans ((f99 36 (by decide)).trans ((f72 36 (by decide)).trans ((f49 36 (by decide)).trans ((f37 36 (by decide)).trans ((f32 36 (by decide)).trans (hfr 36 (by decide)))))))) ((f103 32 (by decide)).trans ((f99 32 (by decide)).trans ((f72 32 (by decide)).trans ((f49 32 (by decide)).trans ((f37 32 (by decide)).trans ((f32 32 (by decide)).trans (hfr 32 (by decide)))))))) ((f103 33 (by decide)).trans ((f99 33 (by decide)).trans ((f72 33 (by decide)).trans ((f49 33 (by decide)).trans ((f37 33 (by decide)).trans ((f32 33 (by decide)).trans (hfr 33 (by decide)))))))) ((f103 34 (by decide)).trans ((f99 34 (by decide)).trans ((f72 34 (by decide)).trans ((f49 34 (by decide)).trans ((f37 34 (by decide)).trans ((f32 34 (by decide)).trans (hfr 34 (by decide)))))))) ((f103 35 (by decide)).trans ((f99 35 (by decide)).trans ((f72 35 (by decide)).trans ((f49 35 (by decide)).trans ((f37 35 (by decide)).trans ((f32 35 (by decide)).trans (hfr 35 (by decide))))))))) (by omega) x103 (by rw [show σ103 30 = σ49 30 from ((f103 30 (by decide)).trans ((f99 30 (by decide)).trans ((f72 30 (by decide)).trans (rfl)))), show σ103 37 = σ49 37 from ((f103 37 (by decide)).trans ((f99 37 (by decide)).trans ((f72 37 (by decide)).trans (rfl)))), show σ103 38 = σ49 38 from ((f103 38 (by decide)).trans ((f99 38 (by decide)).trans ((f72 38 (by decide)).trans (rfl)))), show σ103 39 = σ49 39 from ((f103 39 (by decide)).trans ((f99 39 (by decide)).trans ((f72 39 (by decide)).trans (rfl))))]; exact pe_LO_to x49 (by omega) (by omega) (by omega))) (fun σ107 hz107 => ?_)
            obtain ⟨hB, f107, x107⟩ := hz107
            try have u107_0 : σ107 29 1 = σ103 29 1 := by first | exact o107 1 (by decide) | exact congrFun (f107 29 (by decide)) 1
            try have u107_1 : σ107 29 2 = σ103 29 2 := by first | exact o107 2 (by decide) | exact congrFun (f107 29 (by decide)) 2
            try have u107_2 : σ107 29 3 = σ103 29 3 := by first | exact o107 3 (by decide) | exact congrFun (f107 29 (by decide)) 3
            try have u107_3 : σ107 29 7 = σ103 29 7 := by first | exact o107 7 (by decide) | exact congrFun (f107 29 (by decide)) 7
            try have u107_4 : σ107 29 21 = σ103 29 21 := by first | exact o107 21 (by decide) | exact congrFun (f107 29 (by decide)) 21
            try have u107_5 : σ107 29 22 = σ103 29 22 := by first | exact o107 22 (by decide) | exact congrFun (f107 29 (by decide)) 22
            try have u107_6 : σ107 29 27 = σ103 29 27 := by first | exact o107 27 (by decide) | exact congrFun (f107 29 (by decide)) 27
            try have u107_7 : σ107 29 5 = σ103 29 5 := by first | exact o107 5 (by decide) | exact congrFun (f107 29 (by decide)) 5
            try have u107_8 : σ107 29 26 = σ103 29 26 := by first | exact o107 26 (by decide) | exact congrFun (f107 29 (by decide)) 26
            try have u107_9 : σ107 29 30 = σ103 29 30 := by first | exact o107 30 (by decide) | exact congrFun (f107 29 (by decide)) 30
            try have u107_10 : σ107 29 31 = σ103 29 31 := by first | exact o107 31 (by decide) | exact congrFun (f107 29 (by decide)) 31
            refine pe_aload_n d_M_compose_110 rfl ?_
            refine pe_iload_n d_M_compose_111 rfl ?_
            refine pe_aload_n d_M_compose_112 rfl ?_
            refine pe_geti f_M_222 d_M_compose_113 rfl rfl 27 rfl ?_
            refine pe_isub d_M_compose_116 ?_
            refine pe_putiT f_M_234 g_11_30 d_M_compose_117 rfl rfl 30 rfl hB (by first | exact hB _ _ | exact hB0 _ _ | exact hBt _ _ | exact ⟨by omega, by omega⟩) (fun σ117 hB e117 o117 f117 => ?_)
            try have u117_0 : σ117 29 1 = σ107 29 1 := by first | exact o117 1 (by decide) | exact congrFun (f117 29 (by decide)) 1
            try have u117_1 : σ117 29 2 = σ107 29 2 := by first | exact o117 2 (by decide) | exact congrFun (f117 29 (by decide)) 2
            try have u117_2 : σ117 29 3 = σ107 29 3 := by first | exact o117 3 (by decide) | exact congrFun (f117 29 (by decide)) 3
            try have u117_3 : σ117 29 7 = σ107 29 7 := by first | exact o117 7 (by decide) | exact congrFun (f117 29 (by decide)) 7
            try have u117_4 : σ117 29 21 = σ107 29 21 := by first | exact o117 21 (by decide) | exact congrFun (f117 29 (by decide)) 21
            try have u117_5 : σ117 29 22 = σ107 29 22 := by first | exact o117 22 (by decide) | exact congrFun (f117 29 (by decide)) 22
            try have u117_6 : σ117 29 27 = σ107 29 27 := by first | exact o117 27 (by decide) | exact congrFun (f117 29 (by decide)) 27
            try have u117_7 : σ117 29 5 = σ107 29 5 := by first | exact o117 5 (by decide) | exact congrFun (f117 29 (by decide)) 5
            try have u117_8 : σ117 29 26 = σ107 29 26 := by first | exact o117 26 (by decide) | exact congrFun (f117 29 (by decide)) 26
            try have u117_9 : σ117 29 30 = σ107 29 30 := by first | exact o117 30 (by decide) | exact congrFun (f117 29 (by decide)) 30
            try have u117_10 : σ117 29 31 = σ107 29 31 := by first | exact o117 31 (by decide) | exact congrFun (f117 29 (by decide)) 31
            refine pe_aload_n d_M_compose_120 rfl ?_
            refine pe_aload_n d_M_compose_121 rfl ?_
            refine pe_getr f_M_44 d_M_compose_122 rfl rfl ?_
            refine pe_aload_n d_M_compose_125 rfl ?_
            refine pe_geti f_M_117 d_M_compose_126 rfl rfl 2 rfl ?_
            refine pe_iald d_M_compose_129 rfl (by omega) (by omega) ?_
            have lo9 : σ117 38 (σ117 29 2) = σ49 38 (σ49 29 2) := by rw [show σ117 29 2 = σ49 29 2 by omega, show σ117 38 = σ49 38 from ((f117 38 (by decide)).trans ((f107 38 (by decide)).trans ((f103 38 (by decide)).trans ((f99 38 (by decide)).trans ((f72 38 (by decide)).trans (rfl))))))]
            refine pe_putiT f_M_237 g_11_31 d_M_compose_130 rfl rfl 31 rfl hB (by first | exact hB _ _ | exact hB0 _ _ | exact hBt _ _ | exact ⟨by omega, by omega⟩) (fun σ130 hB e130 o130 f130 => ?_)
            try have u130_0 : σ130 29 1 = σ117 29 1 := by first | exact o130 1 (by decide) | exact congrFun (f130 29 (by decide)) 1
            try have u130_1 : σ130 29 2 = σ117 29 2 := by first | exact o130 2 (by decide) | exact congrFun (f130 29 (by decide)) 2
            try have u130_2 : σ130 29 3 = σ117 29 3 := by first | exact o130 3 (by decide) | exact congrFun (f130 29 (by decide)) 3
            try have u130_3 : σ130 29 7 = σ117 29 7 := by first | exact o130 7 (by decide) | exact congrFun (f130 29 (by decide)) 7
            try have u130_4 : σ130 29 21 = σ117 29 21 := by first | exact o130 21 (by decide) | exact congrFun (f130 29 (by decide)) 21
            try have u130_5 : σ130 29 22 = σ117 29 22 := by first | exact o130 22 (by decide) | exact congrFun (f130 29 (by decide)) 22
            try have u130_6 : σ130 29 27 = σ117 29 27 := by first | exact o130 27 (by decide) | exact congrFun (f130 29 (by decide)) 27
            try have u130_7 : σ130 29 5 = σ117 29 5 := by first | exact o130 5 (by decide) | exact congrFun (f130 29 (by decide)) 5
            try have u130_8 : σ130 29 26 = σ117 29 26 := by first | exact o130 26 (by decide) | exact congrFun (f130 29 (by decide)) 26
            try have u130_9 : σ130 29 30 = σ117 29 30 := by first | exact o130 30 (by decide) | exact congrFun (f130 29 (by decide)) 30
            try have u130_10 : σ130 29 31 = σ117 29 31 := by first | exact o130 31 (by decide) | exact congrFun (f130 29 (by decide)) 31
            refine pe_rv d_M_compose_133 ?_
            exact ⟨hB, (fun b hb => (f130 b (by simp at hb ⊢; try omega)).trans ((f117 b (by simp at hb ⊢; try omega)).trans ((f107 b (by simp at hb ⊢; try omega)).trans ((f103 b (by simp at hb ⊢; try omega)).trans ((f99 b (by simp at hb ⊢; try omega)).trans ((f72 b (by simp at hb ⊢; try omega)).trans ((f49 b (by simp at hb ⊢; try omega)).trans ((f37 b (by simp at hb ⊢; try omega)).trans ((f32 b (by simp at hb ⊢; try omega)).trans (hfr b (by simp at hb ⊢; try omega))))))))))), (fun j hj => (o130 j (by simp at hj ⊢; try omega)).trans ((o117 j (by simp at hj ⊢; try omega)).trans ((congrFun (f107 29 (by decide)) j).trans ((congrFun (f103 29 (by decide)) j).trans ((o99 j (by simp at hj ⊢; try omega)).trans ((o72 j (by simp at hj ⊢; try omega)).trans ((o49 j (by simp at hj ⊢; try omega)).trans ((o37 j (by simp at hj ⊢; try omega)).trans ((o32 j (by simp at hj ⊢; try omega)).trans (congrFun (hfr 29 (by decide)) j)))))))))), pe_DW_to x107 (by omega) (by omega) ((f130 40 (by decide)).trans ((f117 40 (by decide)).trans (rfl))), by omega, by omega⟩
      · skip
        refine pe_rv d_M_compose_47 ?_
        exact ⟨hB, (fun b hb => (f37 b (by simp at hb ⊢; try omega)).trans ((f32 b (by simp at hb ⊢; try omega)).trans (hfr b (by simp at hb ⊢; try omega)))), (fun j hj => (o37 j (by simp at hj ⊢; try omega)).trans ((o32 j (by simp at hj ⊢; try omega)).trans (congrFun (hfr 29 (by decide)) j))), pe_DW_to hD (by omega) (by omega) ((f37 40 (by decide)).trans ((f32 40 (by decide)).trans (rfl))), by omega, by omega⟩
    · skip
      refine pe_aload_n d_M_compose_9 rfl ?_
      refine pe_getr f_M_50 d_M_compose_10 rfl rfl ?_
      refine pe_iload_n d_M_compose_13 rfl ?_
      refine pe_bipush d_M_compose_14 ?_
      refine pe_iastT d_M_compose_16 rfl (by omega) (by omega) hB (by first | exact hB _ _ | exact hB0 _ _ | exact hBt _ _ | exact ⟨by omega, by omega⟩) (fun σ16 hB e16 o16 f16 => ?_)
      try have u16_0 : σ16 29 1 = τ 29 1 := by first | exact o16 1 (by decide) | exact congrFun (f16 29 (by decide)) 1
      try have u16_1 : σ16 29 2 = τ 29 2 := by first | exact o16 2 (by decide) | exact congrFun (f16 29 (by decide)) 2
      try have u16_2 : σ16 29 3 = τ 29 3 := by first | exact o16 3 (by decide) | exact congrFun (f16 29 (by decide)) 3
      try have u16_3 : σ16 29 7 = τ 29 7 := by first | exact o16 7 (by decide) | exact congrFun (f16 29 (by decide)) 7
      try have u16_4 : σ16 29 21 = τ 29 21 := by first | exact o16 21 (by decide) | exact congrFun (f16 29 (by decide)) 21
      try have u16_5 : σ16 29 22 = τ 29 22 := by first | exact o16 22 (by decide) | exact congrFun (f16 29 (by decide)) 22
      try have u16_6 : σ16 29 27 = τ 29 27 := by first | exact o16 27 (by decide) | exact congrFun (f16 29 (by decide)) 27
      try have u16_7 : σ16 29 5 = τ 29 5 := by first | exact o16 5 (by decide) | exact congrFun (f16 29 (by decide)) 5
      try have u16_8 : σ16 29 26 = τ 29 26 := by first | exact o16 26 (by decide) | exact congrFun (f16 29 (by decide)) 26
      try have u16_9 : σ16 29 30 = τ 29 30 := by first | exact o16 30 (by decide) | exact congrFun (f16 29 (by decide)) 30
      try have u16_10 : σ16 29 31 = τ 29 31 := by first | exact o16 31 (by decide) | exact congrFun (f16 29 (by decide)) 31
      refine pe_aload_n d_M_compose_17 rfl ?_
      refine pe_getr f_M_53 d_M_compose_18 rfl rfl ?_
      refine pe_iload_n d_M_compose_21 rfl ?_
      refine pe_iconst d_M_compose_22 ?_
      refine pe_iastT d_M_compose_23 rfl (by omega) (by omega) hB (by first | exact hB _ _ | exact hB0 _ _ | exact hBt _ _ | exact ⟨by omega, by omega⟩) (fun σ23 hB e23 o23 f23 => ?_)
      try have u23_0 : σ23 29 1 = σ16 29 1 := by first | exact o23 1 (by decide) | exact congrFun (f23 29 (by decide)) 1
      try have u23_1 : σ23 29 2 = σ16 29 2 := by first | exact o23 2 (by decide) | exact congrFun (f23 29 (by decide)) 2
      try have u23_2 : σ23 29 3 = σ16 29 3 := by first | exact o23 3 (by decide) | exact congrFun (f23 29 (by decide)) 3
      try have u23_3 : σ23 29 7 = σ16 29 7 := by first | exact o23 7 (by decide) | exact congrFun (f23 29 (by decide)) 7
      try have u23_4 : σ23 29 21 = σ16 29 21 := by first | exact o23 21 (by decide) | exact congrFun (f23 29 (by decide)) 21
      try have u23_5 : σ23 29 22 = σ16 29 22 := by first | exact o23 22 (by decide) | exact congrFun (f23 29 (by decide)) 22
      try have u23_6 : σ23 29 27 = σ16 29 27 := by first | exact o23 27 (by decide) | exact congrFun (f23 29 (by decide)) 27
      try have u23_7 : σ23 29 5 = σ16 29 5 := by first | exact o23 5 (by decide) | exact congrFun (f23 29 (by decide)) 5
      try have u23_8 : σ23 29 26 = σ16 29 26 := by first | exact o23 26 (by decide) | exact congrFun (f23 29 (by decide)) 26
      try have u23_9 : σ23 29 30 = σ16 29 30 := by first | exact o23 30 (by decide) | exact congrFun (f23 29 (by decide)) 30
      try have u23_10 : σ23 29 31 = σ16 29 31 := by first | exact o23 31 (by decide) | exact congrFun (f23 29 (by decide)) 31
      have h32 : ∀ j, 0 ≤ j → j < k + 1 → σ23 40 j = 32 := by
        intro j h1 h2
        rw [f23 40 (by decide)]
        by_cases e : j = k
        · rw [e, e16]
        · rw [o16 j e]; exact h32 j h1 (by omega)
      refine pe_iinc d_M_compose_24 rfl ?_
      refine pe_goto (t := 2) d_M_compose_27 ?_
      exact ih (_, _) ⟨hB, (fun b hb => (f23 b (by simp at hb ⊢; try omega)).trans ((f16 b (by simp at hb ⊢; try omega)).trans (hfr b (by simp at hb ⊢; try omega)))), h32, by (try dsimp only); omega⟩ (by (try dsimp only); omega)
  refine pe_iconst d_M_compose_0 ?_
  refine pe_istore_n d_M_compose_1 ?_
  exact J2 (_, _) ⟨hB, (fun b hb => rfl), fun j h1 h2 => by (try dsimp only at *); omega, by (try dsimp only); omega⟩
theorem pe_cm : pe_CM := fun _ h1 h2 h3 h4 h5 => t_M_compose h1 h2 h3 h4 h5
