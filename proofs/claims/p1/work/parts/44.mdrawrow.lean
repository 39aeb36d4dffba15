theorem t_M_drawRow {σ : pe_H} {r : Int} (hB : pe_B σ) (hW : 1 ≤ σ 29 21 ∧ σ 29 21 ≤ 24 ∧ 1 ≤ σ 29 22 ∧ σ 29 22 ≤ 8) (hp : 0 ≤ σ 29 36 ∧ σ 29 36 < σ 29 22 ∧ 0 ≤ σ 29 37 ∧ σ 29 37 < σ 29 21 ∧ -1 ≤ σ 29 40 ∧ σ 29 40 < 192) (hs : 0 ≤ σ 29 43 ∧ σ 29 43 + 611 ≤ 6000) (hS : pe_SW (σ 29) (σ 42)) (hD : pe_DW (σ 29) (σ 40)) (hr : 0 ≤ r ∧ r < σ 29 22) : pe_M m_M_drawRow [pe_r 29, pe_i r] σ (pe_qv (fun σ' => pe_B σ' ∧ (∀ b, b ∉ [29, 42, 43, 46] → σ' b = σ b) ∧ (∀ j, j ∉ ([36, 37, 38, 39, 40, 43] : List Int) → σ' 29 j = σ 29 j) ∧ pe_SW (σ' 29) (σ' 42) ∧ (0 ≤ σ' 29 36 ∧ σ' 29 36 < σ 29 22 ∧ 0 ≤ σ' 29 37 ∧ σ' 29 37 < σ 29 21 ∧ -1 ≤ σ' 29 40 ∧ σ' 29 40 < 192) ∧ (σ 29 43 ≤ σ' 29 43 ∧ σ' 29 43 ≤ σ 29 43 + 611))) := by
  refine pe_in0 (lv := [some (pe_r 29), some (pe_i r), none, none, none, none, none, none]) ?_
  have hB0 := hB
  have ix := pe_ix (W := σ 29 21) (H := σ 29 22) (r := r) (c := 0) (by omega) (by omega) (by omega) (by omega)
  have J194 : ∀ x : Int × Int × Int × Int × Int × pe_H, (pe_B x.2.2.2.2.2 ∧ (∀ b, b ∉ [29, 42, 43, 46] → x.2.2.2.2.2 b = σ b) ∧ (∀ j, j ∉ ([36, 37, 38, 39, 40, 43] : List Int) → x.2.2.2.2.2 29 j = σ 29 j) ∧ pe_SW (x.2.2.2.2.2 29) (x.2.2.2.2.2 42) ∧ (0 ≤ x.2.2.2.2.2 29 36 ∧ x.2.2.2.2.2 29 36 < σ 29 22 ∧ 0 ≤ x.2.2.2.2.2 29 37 ∧ x.2.2.2.2.2 29 37 < σ 29 21 ∧ -1 ≤ x.2.2.2.2.2 29 40 ∧ x.2.2.2.2.2 29 40 < 192) ∧ (0 ≤ x.2.2.2.1 ∧ x.2.2.2.1 ≤ x.2.2.2.2.1 ∧ x.2.2.2.2.1 ≤ σ 29 21) ∧ (σ 29 43 ≤ x.2.2.2.2.2 29 43 ∧ x.2.2.2.2.2 29 43 ≤ σ 29 43 + 611)) → pe_G m_M_drawRow 194 [some (pe_r 29), some (pe_i r), some (pe_i (σ 29 21 * r)), some (pe_i x.1), some (pe_i x.2.1), some (pe_i x.2.2.1), some (pe_i x.2.2.2.1), some (pe_i x.2.2.2.2.1)] [] x.2.2.2.2.2 (pe_qv (fun σ' => pe_B σ' ∧ (∀ b, b ∉ [29, 42, 43, 46] → σ' b = σ b) ∧ (∀ j, j ∉ ([36, 37, 38, 39, 40, 43] : List Int) → σ' 29 j = σ 29 j) ∧ pe_SW (σ' 29) (σ' 42) ∧ (0 ≤ σ' 29 36 ∧ σ' 29 36 < σ 29 22 ∧ 0 ≤ σ' 29 37 ∧ σ' 29 37 < σ 29 21 ∧ -1 ≤ σ' 29 40 ∧ σ' 29 40 < 192) ∧ (σ 29 43 ≤ σ' 29 43 ∧ σ' 29 43 ≤ σ 29 43 + 611))) := by
    refine pe_loop (fun x : Int × Int × Int × Int × Int × pe_H => (100 - x.2.2.2.2.1).toNat) _ _ ?_
    intro x hI ih
    obtain ⟨a, b, e, l, c, τ⟩ := x
    dsimp only at hI ⊢
    obtain ⟨hB, hfr, hX⟩ := hI
    obtain ⟨hor, hS, hX⟩ := hX
    have w21 : τ 29 21 = σ 29 21 := hor 21 (by decide)
    have w22 : τ 29 22 = σ 29 22 := hor 22 (by decide)
    have hBt := hB
    refine pe_iload d_M_drawRow_194 rfl ?_
    refine pe_aload_n d_M_drawRow_196 rfl ?_
    refine pe_geti f_M_78 d_M_drawRow_197 rfl rfl 21 rfl ?_
    refine pe_icmp_ge (t := 230) d_M_drawRow_200 (by first | exact hB _ _ | exact hB0 _ _ | exact hBt _ _ | exact ⟨by omega, by omega⟩) (by first | exact hB _ _ | exact hB0 _ _ | exact hBt _ _ | exact ⟨by omega, by omega⟩) (fun h200 => ?_) (fun h200 => ?_)
    · skip
      refine pe_aload_n d_M_drawRow_230 rfl ?_
      refine pe_iconst d_M_drawRow_231 ?_
      refine pe_putzT f_M_260 g_11_38 d_M_drawRow_232 rfl rfl (by first | exact Or.inl rfl | exact Or.inr rfl | omega) 38 rfl hB (fun σ232 hB e232 o232 f232 => ?_)
      try have u232_0 : σ232 29 21 = τ 29 21 := by first | exact o232 21 (by decide) | exact congrFun (f232 29 (by decide)) 21
      try have u232_1 : σ232 29 22 = τ 29 22 := by first | exact o232 22 (by decide) | exact congrFun (f232 29 (by decide)) 22
      try have u232_2 : σ232 29 36 = τ 29 36 := by first | exact o232 36 (by decide) | exact congrFun (f232 29 (by decide)) 36
      try have u232_3 : σ232 29 37 = τ 29 37 := by first | exact o232 37 (by decide) | exact congrFun (f232 29 (by decide)) 37
      try have u232_4 : σ232 29 38 = τ 29 38 := by first | exact o232 38 (by decide) | exact congrFun (f232 29 (by decide)) 38
      try have u232_5 : σ232 29 39 = τ 29 39 := by first | exact o232 39 (by decide) | exact congrFun (f232 29 (by decide)) 39
      try have u232_6 : σ232 29 40 = τ 29 40 := by first | exact o232 40 (by decide) | exact congrFun (f232 29 (by decide)) 40
      try have u232_7 : σ232 29 43 = τ 29 43 := by first | exact o232 43 (by decide) | exact congrFun (f232 29 (by decide)) 43
      refine pe_aload_n d_M_drawRow_235 rfl ?_
      refine pe_iconst d_M_drawRow_236 ?_
      refine pe_putiT f_M_68 g_11_40 d_M_drawRow_237 rfl rfl 40 rfl hB (by first | exact hB _ _ | exact hB0 _ _ | exact hBt _ _ | exact ⟨by omega, by omega⟩) (fun σ237 hB e237 o237 f237 => ?_)
      try have u237_0 : σ237 29 21 = σ232 29 21 := by first | exact o237 21 (by decide) | exact congrFun (f237 29 (by decide)) 21
      try have u237_1 : σ237 29 22 = σ232 29 22 := by first | exact o237 22 (by decide) | exact congrFun (f237 29 (by decide)) 22
      try have u237_2 : σ237 29 36 = σ232 29 36 := by first | exact o237 36 (by decide) | exact congrFun (f237 29 (by decide)) 36
      try have u237_3 : σ237 29 37 = σ232 29 37 := by first | exact o237 37 (by decide) | exact congrFun (f237 29 (by decide)) 37
      try have u237_4 : σ237 29 38 = σ232 29 38 := by first | exact o237 38 (by decide) | exact congrFun (f237 29 (by decide)) 38
      try have u237_5 : σ237 29 39 = σ232 29 39 := by first | exact o237 39 (by decide) | exact congrFun (f237 29 (by decide)) 39
      try have u237_6 : σ237 29 40 = σ232 29 40 := by first | exact o237 40 (by decide) | exact congrFun (f237 29 (by decide)) 40
      try have u237_7 : σ237 29 43 = σ232 29 43 := by first | exact o237 43 (by decide) | exact congrFun (f237 29 (by decide)) 43
      refine pe_rv d_M_drawRow_240 ?_
      exact ⟨hB, (fun b hb => (f237 b (by simp at hb ⊢; try omega)).trans ((f232 b (by simp at hb ⊢; try omega)).trans (hfr b (by simp at hb ⊢; try omega)))), (fun j hj => (o237 j (by simp at hj ⊢; try omega)).trans ((o232 j (by simp at hj ⊢; try omega)).trans (hor j (by simp at hj ⊢; try omega)))), pe_SW_to hS (by omega) (by omega) ((f237 42 (by decide)).trans ((f232 42 (by decide)).trans (rfl))), by omega, by omega⟩
    · skip
      refine pe_aload_n d_M_drawRow_203 rfl ?_
      refine pe_getr f_M_56 d_M_drawRow_204 rfl rfl ?_
      refine pe_iload_n d_M_drawRow_207 rfl ?_
      refine pe_iload d_M_drawRow_208 rfl ?_
      refine pe_iadd d_M_drawRow_210 ?_
      refine pe_bipush d_M_drawRow_211 ?_
      refine pe_iastT d_M_drawRow_213 rfl (by omega) (by omega) hB (by first | exact hB _ _ | exact hB0 _ _ | exact hBt _ _ | exact ⟨by omega, by omega⟩) (fun σ213 hB e213 o213 f213 => ?_)
      try have u213_0 : σ213 29 21 = τ 29 21 := by first | exact o213 21 (by decide) | exact congrFun (f213 29 (by decide)) 21
      try have u213_1 : σ213 29 22 = τ 29 22 := by first | exact o213 22 (by decide) | exact congrFun (f213 29 (by decide)) 22
      try have u213_2 : σ213 29 36 = τ 29 36 := by first | exact o213 36 (by decide) | exact congrFun (f213 29 (by decide)) 36
      try have u213_3 : σ213 29 37 = τ 29 37 := by first | exact o213 37 (by decide) | exact congrFun (f213 29 (by decide)) 37
      try have u213_4 : σ213 29 38 = τ 29 38 := by first | exact o213 38 (by decide) | exact congrFun (f213 29 (by decide)) 38
      try have u213_5 : σ213 29 39 = τ 29 39 := by first | exact o213 39 (by decide) | exact congrFun (f213 29 (by decide)) 39
      try have u213_6 : σ213 29 40 = τ 29 40 := by first | exact o213 40 (by decide) | exact congrFun (f213 29 (by decide)) 40
      try have u213_7 : σ213 29 43 = τ 29 43 := by first | exact o213 43 (by decide) | exact congrFun (f213 29 (by decide)) 43
      have hS9 : pe_SW (τ 29) (σ213 42) := pe_SW_up hS e213 o213 (by omega) (by omega) (fun z => absurd z (pe_nw (by omega)))
      refine pe_aload_n d_M_drawRow_214 rfl ?_
      refine pe_getr f_M_59 d_M_drawRow_215 rfl rfl ?_
      refine pe_iload_n d_M_drawRow_218 rfl ?_
      refine pe_iload d_M_drawRow_219 rfl ?_
      refine pe_iadd d_M_drawRow_221 ?_
      refine pe_iconst d_M_drawRow_222 ?_
      refine pe_iastT d_M_drawRow_223 rfl (by omega) (by omega) hB (by first | exact hB _ _ | exact hB0 _ _ | exact hBt _ _ | exact ⟨by omega, by omega⟩) (fun σ223 hB e223 o223 f223 => ?_)
      try have u223_0 : σ223 29 21 = σ213 29 21 := by first | exact o223 21 (by decide) | exact congrFun (f223 29 (by decide)) 21
      try have u223_1 : σ223 29 22 = σ213 29 22 := by first | exact o223 22 (by decide) | exact congrFun (f223 29 (by decide)) 22
      try have u223_2 : σ223 29 36 = σ213 29 36 := by first | exact o223 36 (by decide) | exact congrFun (f223 29 (by decide)) 36
      try have u223_3 : σ223 29 37 = σ213 29 37 := by first | exact o223 37 (by decide) | exact congrFun (f223 29 (by decide)) 37
      try have u223_4 : σ223 29 38 = σ213 29 38 := by first | exact o223 38 (by decide) | exact congrFun (f223 29 (by decide)) 38
      try have u223_5 : σ223 29 39 = σ213 29 39 := by first | exact o223 39 (by decide) | exact congrFun (f223 29 (by decide)) 39
      try have u223_6 : σ223 29 40 = σ213 29 40 := by first | exact o223 40 (by decide) | exact congrFun (f223 29 (by decide)) 40
      try have u223_7 : σ223 29 43 = σ213 29 43 := by first | exact o223 43 (by decide) | exact congrFun (f223 29 (by decide)) 43
      refine pe_iinc d_M_drawRow_224 rfl ?_
      refine pe_goto (t := 194) d_M_drawRow_227 ?_
      exact ih (_, _, _, _, _, _) ⟨hB, (fun b hb => (f223 b (by simp at hb ⊢; try omega)).trans ((f213 b (by simp at hb ⊢; try omega)).trans (hfr b (by simp at hb ⊢; try omega)))), (fun j hj => (congrFun (f223 29 (by decide)) j).trans ((congrFun (f213 29 (by decide)) j).trans (hor j (by simp at hj ⊢; try omega)))), pe_SW_to hS9 (by first | rfl | omega | (dsimp only; omega)) (by first | rfl | omega | (dsimp only; omega)) (f223 42 (by decide)), by (try dsimp only); omega⟩ (by (try dsimp only); omega)
  have J128 : ∀ x : Int × Int × Int, ((0 ≤ x.1 ∧ x.1 ≤ x.2.1 ∧ x.2.1 < σ 29 21) ∧ (0 ≤ x.2.2 ∧ x.2.2 ≤ σ 29 21)) → pe_G m_M_drawRow 128 [some (pe_r 29), some (pe_i r), some (pe_i (σ 29 21 * r)), some (pe_i x.1), some (pe_i x.2.1), some (pe_i x.2.2), none, none] [] σ (pe_qv (fun σ' => pe_B σ' ∧ (∀ b, b ∉ [29, 42, 43, 46] → σ' b = σ b) ∧ (∀ j, j ∉ ([36, 37, 38, 39, 40, 43] : List Int) → σ' 29 j = σ 29 j) ∧ pe_SW (σ' 29) (σ' 42) ∧ (0 ≤ σ' 29 36 ∧ σ' 29 36 < σ 29 22 ∧ 0 ≤ σ' 29 37 ∧ σ' 29 37 < σ 29 21 ∧ -1 ≤ σ' 29 40 ∧ σ' 29 40 < 192) ∧ (σ 29 43 ≤ σ' 29 43 ∧ σ' 29 43 ≤ σ 29 43 + 611))) := by
    intro x hI
    obtain ⟨a, b, e⟩ := x
    dsimp only at hI ⊢
    refine pe_iload_n d_M_drawRow_128 rfl ?_
    refine pe_iload d_M_drawRow_129 rfl ?_
    refine pe_icmp_le (t := 138) d_M_drawRow_131 (by first | exact hB _ _ | exact hB0 _ _ | exact hBt _ _ | exact ⟨by omega, by omega⟩) (by first | exact hB _ _ | exact hB0 _ _ | exact hBt _ _ | exact ⟨by omega, by omega⟩) (fun h131 => ?_) (fun h131 => ?_)
    · skip
      refine pe_iload d_M_drawRow_138 rfl ?_
      refine pe_istore d_M_drawRow_140 ?_
      refine pe_iload d_M_drawRow_142 rfl ?_
      refine pe_iload d_M_drawRow_144 rfl ?_
      refine pe_isub d_M_drawRow_146 ?_
      refine pe_iconst d_M_drawRow_147 ?_
      refine pe_iadd d_M_drawRow_148 ?_
      refine pe_iconst d_M_drawRow_149 ?_
      refine pe_icmp_gt (t := 162) d_M_drawRow_150 (by first | exact hB _ _ | exact hB0 _ _ | exact hBt _ _ | exact ⟨by omega, by omega⟩) (by first | exact hB _ _ | exact hB0 _ _ | exact hBt _ _ | exact ⟨by omega, by omega⟩) (fun h150 => ?_) (fun h150 => ?_)
      · skip
        refine pe_aload_n d_M_drawRow_162 rfl ?_
        refine pe_iload_n d_M_drawRow_163 rfl ?_
        refine pe_iload_n d_M_drawRow_164 rfl ?_
        refine pe_iload d_M_drawRow_165 rfl ?_
        refine pe_iconst d_M_drawRow_167 ?_
        refine pe_isub d_M_drawRow_168 ?_
        refine pe_v3v d_M_drawRow_169 c_M_300 i_M_sendClusters s_M_sendClusters rfl rfl (t_M_sendClusters hB (by omega) (by omega) (by omega) hS hD (by omega) (by omega) (by omega)) (fun σ169 hz169 => ?_)
        obtain ⟨hB, f169, o169, x169⟩ := hz169
        try have u169_0 : σ169 29 21 = σ 29 21 := by first | exact o169 21 (by decide) | exact congrFun (f169 29 (by decide)) 21
        try have u169_1 : σ169 29 22 = σ 29 22 := by first | exact o169 22 (by decide) | exact congrFun (f169 29 (by decide)) 22
        try have u169_2 : σ169 29 36 = σ 29 36 := by first | exact o169 36 (by decide) | exact congrFun (f169 29 (by decide)) 36
        try have u169_3 : σ169 29 37 = σ 29 37 := by first | exact o169 37 (by decide) | exact congrFun (f169 29 (by decide)) 37
        try have u169_4 : σ169 29 38 = σ 29 38 := by first | exact o169 38 (by decide) | exact congrFun (f169 29 (by decide)) 38
        try have u169_5 : σ169 29 39 = σ 29 39 := by first | exact o169 39 (by decide) | exact congrFun (f169 29 (by decide)) 39
        try have u169_6 : σ169 29 40 = σ 29 40 := by first | exact o169 40 (by decide) | exact congrFun (f169 29 (by decide)) 40
        try have u169_7 : σ169 29 43 = σ 29 43 := by first | exact o169 43 (by decide) | exact congrFun (f169 29 (by decide)) 43
        refine pe_aload_n d_M_drawRow_172 rfl ?_
        refine pe_iload_n d_M_drawRow_173 rfl ?_
        refine pe_iload d_M_drawRow_174 rfl ?_
        refine pe_iconst d_M_drawRow_176 ?_
        refine pe_v3v d_M_drawRow_177 c_M_284 i_M_go s_M_go rfl rfl (t_M_go hB (by omega) (by omega) (by omega) (by omega) (by omega) (by first | exact hB _ _ | exact hB0 _ _ | exact hBt _ _ | exact ⟨by omega, by omega⟩)) (fun σ177 hz177 => ?_)
        obtain ⟨hB, f177, o177, x177⟩ := hz177
        try have u177_0 : σ177 29 21 = σ169 29 21 := by first | exact o177 21 (by decide) | exact congrFun (f177 29 (by decide)) 21
        try have u177_1 : σ177 29 22 = σ169 29 22 := by first | exact o177 22 (by decide) | exact congrFun (f177 29 (by decide)) 22
        try have u177_2 : σ177 29 36 = σ169 29 36 := by first | exact o177 36 (by decide) | exact congrFun (f177 29 (by decide)) 36
        try have u177_3 : σ177 29 37 = σ169 29 37 := by first | exact o177 37 (by decide) | exact congrFun (f177 29 (by decide)) 37
        try have u177_4 : σ177 29 38 = σ169 29 38 := by first | exact o177 38 (by decide) | exact congrFun (f177 29 (by decide)) 38
        try have u177_5 : σ177 29 39 = σ169 29 39 := by first | exact o177 39 (by decide) | exact congrFun (f177 29 (by decide)) 39
        try have u177_6 : σ177 29 40 = σ169 29 40 := by first | exact o177 40 (by decide) | exact congrFun (f177 29 (by decide)) 40
        try have u177_7 : σ177 29 43 = σ169 29 43 := by first | exact o177 43 (by decide) | exact congrFun (f177 29 (by decide)) 43
        refine pe_aload_n d_M_drawRow_180 rfl ?_
        refine pe_v0v d_M_drawRow_181 c_M_275 i_M_putBegin s_M_putBegin rfl rfl (t_M_putBegin hB (by omega)) (fun σ181 hz181 => ?_)
        obtain ⟨hB, f181, o181, x181⟩ := hz181
        try have u181_0 : σ181 29 21 = σ177 29 21 := by first | exact o181 21 (by decide) | exact congrFun (f181 29 (by decide)) 21
        try have u181_1 : σ181 29 22 = σ177 29 22 := by first | exact o181 22 (by decide) | exact congrFun (f181 29 (by decide)) 22
        try have u181_2 : σ181 29 36 = σ177 29 36 := by first | exact o181 36 (by decide) | exact congrFun (f181 29 (by decide)) 36
        try have u181_3 : σ181 29 37 = σ177 29 37 := by first | exact o181 37 (by decide) | exact congrFun (f181 29 (by decide)) 37
        try have u181_4 : σ181 29 38 = σ177 29 38 := by first | exact o181 38 (by decide) | exact congrFun (f181 29 (by decide)) 38
        try have u181_5 : σ181 29 39 = σ177 29 39 := by first | exact o181 39 (by decide) | exact congrFun (f181 29 (by decide)) 39
        try have u181_6 : σ181 29 40 = σ177 29 40 := by first | exact o181 40 (by decide) | exact congrFun (f181 29 (by decide)) 40
        try have u181_7 : σ181 29 43 = σ177 29 43 := by first | exact o181 43 (by decide) | exact congrFun (f181 29 (by decide)) 43
        refine pe_aload_n d_M_drawRow_184 rfl ?_
        refine pe_bipush d_M_drawRow_185 ?_
        refine pe_v1v d_M_drawRow_187 c_M_253 i_M_put s_M_put rfl rfl (t_M_put hB (by omega) (by first | exact hB _ _ | exact hB0 _ _ | exact hBt _ _ | exact ⟨by omega, by omega⟩)) (fun σ187 hz187 => ?_)
        obtain ⟨hB, f187, o187, x187⟩ := hz187
        try have u187_0 : σ187 29 21 = σ181 29 21 := by first | exact o187 21 (by decide) | exact congrFun (f187 29 (by decide)) 21
        try have u187_1 : σ187 29 22 = σ181 29 22 := by first | exact o187 22 (by decide) | exact congrFun (f187 29 (by decide)) 22
        try have u187_2 : σ187 29 36 = σ181 29 36 := by first | exact o187 36 (by decide) | exact congrFun (f187 29 (by decide)) 36
        try have u187_3 : σ187 29 37 = σ181 29 37 := by first | exact o187 37 (by decide) | exact congrFun (f187 29 (by decide)) 37
        try have u187_4 : σ187 29 38 = σ181 29 38 := by first | exact o187 38 (by decide) | exact congrFun (f187 29 (by decide)) 38
        try have u187_5 : σ187 29 39 = σ181 29 39 := by first | exact o187 39 (by decide) | exact congrFun (f187 29 (by decide)) 39
        try have u187_6 : σ187 29 40 = σ181 29 40 := by first | exact o187 40 (by decide) | exact congrFun (f187 29 (by decide)) 40
        try have u187_7 : σ187 29 43 = σ181 29 43 := by first | exact o187 43 (by decide) | exact congrFun (f187 29 (by decide)) 43
        refine pe_iload d_M_drawRow_190 rfl ?_
        refine pe_istore d_M_drawRow_192 ?_
        exact J194 (_, _, _, _, _, _) ⟨hB, (fun b hb => (f187 b (by simp at hb ⊢; try omega)).trans ((f181 b (by simp at hb ⊢; try omega)).trans ((f177 b (by simp at hb ⊢; try omega)).trans ((f169 b (by simp at hb ⊢; try omega)).trans (rfl))))), (fun j hj => (o187 j (by simp at hj ⊢; try omega)).trans ((o181 j (by simp at hj ⊢; try omega)).trans ((o177 j (by simp at hj ⊢; try omega)).trans ((o169 j (by simp at hj ⊢; try omega)).trans (rfl))))), pe_SW_to x169.1 (by first | omega | (dsimp only; omega)) (by first | omega | (dsimp only; omega)) ((f187 42 (by decide)).trans ((f181 42 (by decide)).trans ((f177 42 (by decide)).trans (rfl)))), by (try dsimp only); omega⟩
      · skip
        refine pe_aload_n d_M_drawRow_153 rfl ?_
        refine pe_iload_n d_M_drawRow_154 rfl ?_
        refine pe_iload_n d_M_drawRow_155 rfl ?_
        refine pe_iload d_M_drawRow_156 rfl ?_
        refine pe_v3v d_M_drawRow_158 c_M_300 i_M_sendClusters s_M_sendClusters rfl rfl (t_M_sendClusters hB (by omega) (by omega) (by omega) hS hD (by omega) (by omega) (by omega)) (fun σ158 hz158 => ?_)
        obtain ⟨hB, f158, o158, x158⟩ := hz158
        try have u158_0 : σ158 29 21 = σ 29 21 := by first | exact o158 21 (by decide) | exact congrFun (f158 29 (by decide)) 21
        try have u158_1 : σ158 29 22 = σ 29 22 := by first | exact o158 22 (by decide) | exact congrFun (f158 29 (by decide)) 22
        try have u158_2 : σ158 29 36 = σ 29 36 := by first | exact o158 36 (by decide) | exact congrFun (f158 29 (by decide)) 36
        try have u158_3 : σ158 29 37 = σ 29 37 := by first | exact o158 37 (by decide) | exact congrFun (f158 29 (by decide)) 37
        try have u158_4 : σ158 29 38 = σ 29 38 := by first | exact o158 38 (by decide) | exact congrFun (f158 29 (by decide)) 38
        try have u158_5 : σ158 29 39 = σ 29 39 := by first | exact o158 39 (by decide) | exact congrFun (f158 29 (by decide)) 39
        try have u158_6 : σ158 29 40 = σ 29 40 := by first | exact o158 40 (by decide) | exact congrFun (f158 29 (by decide)) 40
        try have u158_7 : σ158 29 43 = σ 29 43 := by first | exact o158 43 (by decide) | exact congrFun (f158 29 (by decide)) 43
        refine pe_rv d_M_drawRow_161 ?_
        exact ⟨hB, (fun b hb => (f158 b (by simp at hb ⊢; try omega)).trans (rfl)), (fun j hj => (o158 j (by simp at hj ⊢; try omega)).trans (rfl)), x158.1, by omega, by omega⟩
    · skip
      refine pe_iload_n d_M_drawRow_134 rfl ?_
      refine pe_goto (t := 140) d_M_drawRow_135 ?_
      refine pe_istore d_M_drawRow_140 ?_
      refine pe_iload d_M_drawRow_142 rfl ?_
      refine pe_iload d_M_drawRow_144 rfl ?_
      refine pe_isub d_M_drawRow_146 ?_
      refine pe_iconst d_M_drawRow_147 ?_
      refine pe_iadd d_M_drawRow_148 ?_
      refine pe_iconst d_M_drawRow_149 ?_
      refine pe_icmp_gt (t := 162) d_M_drawRow_150 (by first | exact hB _ _ | exact hB0 _ _ | exact hBt _ _ | exact ⟨by omega, by omega⟩) (by first | exact hB _ _ | exact hB0 _ _ | exact hBt _ _ | exact ⟨by omega, by omega⟩) (fun h150 => ?_) (fun h150 => ?_)
      · skip
        refine pe_aload_n d_M_drawRow_162 rfl ?_
        refine pe_iload_n d_M_drawRow_163 rfl ?_
        refine pe_iload_n d_M_drawRow_164 rfl ?_
        refine pe_iload d_M_drawRow_165 rfl ?_
        refine pe_iconst d_M_drawRow_167 ?_
        refine pe_isub d_M_drawRow_168 ?_
        refine pe_v3v d_M_drawRow_169 c_M_300 i_M_sendClusters s_M_sendClusters rfl rfl (t_M_sendClusters hB (by omega) (by omega) (by omega) hS hD (by omega) (by omega) (by omega)) (fun σ169 hz169 => ?_)
        obtain ⟨hB, f169, o169, x169⟩ := hz169
        try have u169_0 : σ169 29 21 = σ 29 21 := by first | exact o169 21 (by decide) | exact congrFun (f169 29 (by decide)) 21
        try have u169_1 : σ169 29 22 = σ 29 22 := by first | exact o169 22 (by decide) | exact congrFun (f169 29 (by decide)) 22
        try have u169_2 : σ169 29 36 = σ 29 36 := by first | exact o169 36 (by decide) | exact congrFun (f169 29 (by decide)) 36
        try have u169_3 : σ169 29 37 = σ 29 37 := by first | exact o169 37 (by decide) | exact congrFun (f169 29 (by decide)) 37
        try have u169_4 : σ169 29 38 = σ 29 38 := by first | exact o169 38 (by decide) | exact congrFun (f169 29 (by decide)) 38
        try have u169_5 : σ169 29 39 = σ 29 39 := by first | exact o169 39 (by decide) | exact congrFun (f169 29 (by decide)) 39
        try have u169_6 : σ169 29 40 = σ 29 40 := by first | exact o169 40 (by decide) | exact congrFun (f169 29 (by decide)) 40
        try have u169_7 : σ169 29 43 = σ 29 43 := by first | exact o169 43 (by decide) | exact congrFun (f169 29 (by decide)) 43
        refine pe_aload_n d_M_drawRow_172 rfl ?_
        refine pe_iload_n d_M_drawRow_173 rfl ?_
        refine pe_iload d_M_drawRow_174 rfl ?_
        refine pe_iconst d_M_drawRow_176 ?_
        refine pe_v3v d_M_drawRow_177 c_M_284 i_M_go s_M_go rfl rfl (t_M_go hB (by omega) (by omega) (by omega) (by omega) (by omega) (by first | exact hB _ _ | exact hB0 _ _ | exact hBt _ _ | exact ⟨by omega, by omega⟩)) (fun σ177 hz177 => ?_)
        obtain ⟨hB, f177, o177, x177⟩ := hz177
        try have u177_0 : σ177 29 21 = σ169 29 21 := by first | exact o177 21 (by decide) | exact congrFun (f177 29 (by decide)) 21
        try have u177_1 : σ177 29 22 = σ169 29 22 := by first | exact o177 22 (by decide) | exact congrFun (f177 29 (by decide)) 22
        try have u177_2 : σ177 29 36 = σ169 29 36 := by first | exact o177 36 (by decide) | exact congrFun (f177 29 (by decide)) 36
        try have u177_3 : σ177 29 37 = σ169 29 37 := by first | exact o177 37 (by decide) | exact congrFun (f177 29 (by decide)) 37
        try have u177_4 : σ177 29 38 = σ169 29 38 := by first | exact o177 38 (by decide) | exact congrFun (f177 29 (by decide)) 38
        try have u177_5 : σ177 29 39 = σ169 29 39 := by first | exact o177 39 (by decide) | exact congrFun (f177 29 (by decide)) 39
        try have u177_6 : σ177 29 40 = σ169 29 40 := by first | exact o177 40 (by decide) | exact congrFun (f177 29 (by decide)) 40
        try have u177_7 : σ177 29 43 = σ169 29 43 := by first | exact o177 43 (by decide) | exact congrFun (f177 29 (by decide)) 43
        refine pe_aload_n d_M_drawRow_180 rfl ?_
        refine pe_v0v d_M_drawRow_181 c_M_275 i_M_putBegin s_M_putBegin rfl rfl (t_M_putBegin hB (by omega)) (fun σ181 hz181 => ?_)
        obtain ⟨hB, f181, o181, x181⟩ := hz181
        try have u181_0 : σ181 29 21 = σ177 29 21 := by first | exact o181 21 (by decide) | exact congrFun (f181 29 (by decide)) 21
        try have u181_1 : σ181 29 22 = σ177 29 22 := by first | exact o181 22 (by decide) | exact congrFun (f181 29 (by decide)) 22
        try have u181_2 : σ181 29 36 = σ177 29 36 := by first | exact o181 36 (by decide) | exact congrFun (f181 29 (by decide)) 36
        try have u181_3 : σ181 29 37 = σ177 29 37 := by first | exact o181 37 (by decide) | exact congrFun (f181 29 (by decide)) 37
        try have u181_4 : σ181 29 38 = σ177 29 38 := by first | exact o181 38 (by decide) | exact congrFun (f181 29 (by decide)) 38
        try have u181_5 : σ181 29 39 = σ177 29 39 := by first | exact o181 39 (by decide) | exact congrFun (f181 29 (by decide)) 39
        try have u181_6 : σ181 29 40 = σ177 29 40 := by first | exact o181 40 (by decide) | exact congrFun (f181 29 (by decide)) 40
        try have u181_7 : σ181 29 43 = σ177 29 43 := by first | exact o181 43 (by decide) | exact congrFun (f181 29 (by decide)) 43
        refine pe_aload_n d_M_drawRow_184 rfl ?_
        refine pe_bipush d_M_drawRow_185 ?_
        refine pe_v1v d_M_drawRow_187 c_M_253 i_M_put s_M_put rfl rfl (t_M_put hB (by omega) (by first | exact hB _ _ | exact hB0 _ _ | exact hBt _ _ | exact ⟨by omega, by omega⟩)) (fun σ187 hz187 => ?_)
        obtain ⟨hB, f187, o187, x187⟩ := hz187
        try have u187_0 : σ187 29 21 = σ181 29 21 := by first | exact o187 21 (by decide) | exact congrFun (f187 29 (by decide)) 21
        try have u187_1 : σ187 29 22 = σ181 29 22 := by first | exact o187 22 (by decide) | exact congrFun (f187 29 (by decide)) 22
        try have u187_2 : σ187 29 36 = σ181 29 36 := by first | exact o187 36 (by decide) | exact congrFun (f187 29 (by decide)) 36
        try have u187_3 : σ187 29 37 = σ181 29 37 := by first | exact o187 37 (by decide) | exact congrFun (f187 29 (by decide)) 37
        try have u187_4 : σ187 29 38 = σ181 29 38 := by first | exact o187 38 (by decide) | exact congrFun (f187 29 (by decide)) 38
        try have u187_5 : σ187 29 39 = σ181 29 39 := by first | exact o187 39 (by decide) | exact congrFun (f187 29 (by decide)) 39
        try have u187_6 : σ187 29 40 = σ181 29 40 := by first | exact o187 40 (by decide) | exact congrFun (f187 29 (by decide)) 40
        try have u187_7 : σ187 29 43 = σ181 29 43 := by first | exact o187 43 (by decide) | exact congrFun (f187 29 (by decide)) 43
        refine pe_iload d_M_drawRow_190 rfl ?_
        refine pe_istore d_M_drawRow_192 ?_
        exact J194 (_, _, _, _, _, _) ⟨hB, (fun b hb => (f187 b (by simp at hb ⊢; try omega)).trans ((f181 b (by simp at hb ⊢; try omega)).trans ((f177 b (by simp at hb ⊢; try omega)).trans ((f169 b (by simp at hb ⊢; try omega)).trans (rfl))))), (fun j hj => (o187 j (by simp at hj ⊢; try omega)).trans ((o181 j (by simp at hj ⊢; try omega)).trans ((o177 j (by simp at hj ⊢; try omega)).trans ((o169 j (by simp at hj ⊢; try omega)).trans (rfl))))), pe_SW_to x169.1 (by first | omega | (dsimp only; omega)) (by first | omega | (dsimp only; omega)) ((f187 42 (by decide)).trans ((f181 42 (by decide)).trans ((f177 42 (by decide)).trans (rfl)))), by (try dsimp only); omega⟩
      · skip
        refine pe_aload_n d_M_drawRow_153 rfl ?_
        refine pe_iload_n d_M_drawRow_154 rfl ?_
        refine pe_iload_n d_M_drawRow_155 rfl ?_
        refine pe_iload d_M_drawRow_156 rfl ?_
        refine pe_v3v d_M_drawRow_158 c_M_300 i_M_sendClusters s_M_sendClusters rfl rfl (t_M_sendClusters hB (by omega) (by omega) (by omega) hS hD (by omega) (by omega) (by omega)) (fun σ158 hz158 => ?_)
        obtain ⟨hB, f158, o158, x158⟩ := hz158
        try have u158_0 : σ158 29 21 = σ 29 21 := by first | exact o158 21 (by decide) | exact congrFun (f158 29 (by decide)) 21
        try have u158_1 : σ158 29 22 = σ 29 22 := by first | exact o158 22 (by decide) | exact congrFun (f158 29 (by decide)) 22
        try have u158_2 : σ158 29 36 = σ 29 36 := by first | exact o158 36 (by decide) | exact congrFun (f158 29 (by decide)) 36
        try have u158_3 : σ158 29 37 = σ 29 37 := by first | exact o158 37 (by decide) | exact congrFun (f158 29 (by decide)) 37
        try have u158_4 : σ158 29 38 = σ 29 38 := by first | exact o158 38 (by decide) | exact congrFun (f158 29 (by decide)) 38
        try have u158_5 : σ158 29 39 = σ 29 39 := by first | exact o158 39 (by decide) | exact congrFun (f158 29 (by decide)) 39
        try have u158_6 : σ158 29 40 = σ 29 40 := by first | exact o158 40 (by decide) | exact congrFun (f158 29 (by decide)) 40
        try have u158_7 : σ158 29 43 = σ 29 43 := by first | exact o158 43 (by decide) | exact congrFun (f158 29 (by decide)) 43
        refine pe_rv d_M_drawRow_161 ?_
        exact ⟨hB, (fun b hb => (f158 b (by simp at hb ⊢; try omega)).trans (rfl)), (fun j hj => (o158 j (by simp at hj ⊢; try omega)).trans (rfl)), x158.1, by omega, by omega⟩
  have J87 : ∀ x : Int × Int × Int, ((0 ≤ x.1 ∧ x.1 ≤ x.2.1 ∧ x.2.1 < σ 29 21) ∧ (0 ≤ x.2.2 ∧ x.2.2 ≤ σ 29 21)) → pe_G m_M_drawRow 87 [some (pe_r 29), some (pe_i r), some (pe_i (σ 29 21 * r)), some (pe_i x.1), some (pe_i x.2.1), some (pe_i x.2.2), none, none] [] σ (pe_qv (fun σ' => pe_B σ' ∧ (∀ b, b ∉ [29, 42, 43, 46] → σ' b = σ b) ∧ (∀ j, j ∉ ([36, 37, 38, 39, 40, 43] : List Int) → σ' 29 j = σ 29 j) ∧ pe_SW (σ' 29) (σ' 42) ∧ (0 ≤ σ' 29 36 ∧ σ' 29 36 < σ 29 22 ∧ 0 ≤ σ' 29 37 ∧ σ' 29 37 < σ 29 21 ∧ -1 ≤ σ' 29 40 ∧ σ' 29 40 < 192) ∧ (σ 29 43 ≤ σ' 29 43 ∧ σ' 29 43 ≤ σ 29 43 + 611))) := by
    refine pe_loop (fun x : Int × Int × Int => (100 + x.2.2).toNat) _ _ ?_
    intro x hI ih
    obtain ⟨a, b, e⟩ := x
    dsimp only at hI ⊢
    refine pe_iload d_M_drawRow_87 rfl ?_
    refine pe_if_le (t := 128) d_M_drawRow_89 (by first | exact hB _ _ | exact hB0 _ _ | exact hBt _ _ | exact ⟨by omega, by omega⟩) (fun h89 => ?_) (fun h89 => ?_)
    · skip
      exact J128 (_, _, _) (by (try dsimp only); omega)
    · skip
      refine pe_aload_n d_M_drawRow_92 rfl ?_
      refine pe_getr f_M_50 d_M_drawRow_93 rfl rfl ?_
      refine pe_iload_n d_M_drawRow_96 rfl ?_
      refine pe_iload d_M_drawRow_97 rfl ?_
      refine pe_iadd d_M_drawRow_99 ?_
      refine pe_iconst d_M_drawRow_100 ?_
      refine pe_isub d_M_drawRow_101 ?_
      refine pe_iald d_M_drawRow_102 rfl (by omega) (by omega) ?_
      refine pe_bipush d_M_drawRow_103 ?_
      refine pe_icmp_ne (t := 128) d_M_drawRow_105 (by first | exact hB _ _ | exact hB0 _ _ | exact hBt _ _ | exact ⟨by omega, by omega⟩) (by first | exact hB _ _ | exact hB0 _ _ | exact hBt _ _ | exact ⟨by omega, by omega⟩) (fun h105 => ?_) (fun h105 => ?_)
      · skip
        exact J128 (_, _, _) (by (try dsimp only); omega)
      · skip
        refine pe_aload_n d_M_drawRow_108 rfl ?_
        refine pe_getr f_M_53 d_M_drawRow_109 rfl rfl ?_
        refine pe_iload_n d_M_drawRow_112 rfl ?_
        refine pe_iload d_M_drawRow_113 rfl ?_
        refine pe_iadd d_M_drawRow_115 ?_
        refine pe_iconst d_M_drawRow_116 ?_
        refine pe_isub d_M_drawRow_117 ?_
        refine pe_iald d_M_drawRow_118 rfl (by omega) (by omega) ?_
        refine pe_if_ne (t := 128) d_M_drawRow_119 (by first | exact hB _ _ | exact hB0 _ _ | exact hBt _ _ | exact ⟨by omega, by omega⟩) (fun h119 => ?_) (fun h119 => ?_)
        · skip
          exact J128 (_, _, _) (by (try dsimp only); omega)
        · skip
          refine pe_iinc d_M_drawRow_122 rfl ?_
          refine pe_goto (t := 87) d_M_drawRow_125 ?_
          exact ih (_, _, _) (by (try dsimp only); omega) (by (try dsimp only); omega)
  have J81 : ∀ x : Int × Int, ((0 ≤ x.1 ∧ x.1 ≤ x.2 ∧ x.2 < σ 29 21)) → pe_G m_M_drawRow 81 [some (pe_r 29), some (pe_i r), some (pe_i (σ 29 21 * r)), some (pe_i x.1), some (pe_i x.2), none, none, none] [] σ (pe_qv (fun σ' => pe_B σ' ∧ (∀ b, b ∉ [29, 42, 43, 46] → σ' b = σ b) ∧ (∀ j, j ∉ ([36, 37, 38, 39, 40, 43] : List Int) → σ' 29 j = σ 29 j) ∧ pe_SW (σ' 29) (σ' 42) ∧ (0 ≤ σ' 29 36 ∧ σ' 29 36 < σ 29 22 ∧ 0 ≤ σ' 29 37 ∧ σ' 29 37 < σ 29 21 ∧ -1 ≤ σ' 29 40 ∧ σ' 29 40 < 192) ∧ (σ 29 43 ≤ σ' 29 43 ∧ σ' 29 43 ≤ σ 29 43 + 611))) := by
    intro x hI
    obtain ⟨a, b⟩ := x
    dsimp only at hI ⊢
    refine pe_aload_n d_M_drawRow_81 rfl ?_
    refine pe_geti f_M_78 d_M_drawRow_82 rfl rfl 21 rfl ?_
    refine pe_istore d_M_drawRow_85 ?_
    exact J87 (_, _, _) (by (try dsimp only); omega)
  have J50 : ∀ x : Int × Int, ((0 ≤ x.1 ∧ x.1 ≤ x.2 ∧ x.2 < σ 29 21) ∧ (σ 40 (σ 29 21 * r + x.1) ≠ σ 42 (σ 29 21 * r + x.1) ∨ σ 41 (σ 29 21 * r + x.1) ≠ σ 43 (σ 29 21 * r + x.1))) → pe_G m_M_drawRow 50 [some (pe_r 29), some (pe_i r), some (pe_i (σ 29 21 * r)), some (pe_i x.1), some (pe_i x.2), none, none, none] [] σ (pe_qv (fun σ' => pe_B σ' ∧ (∀ b, b ∉ [29, 42, 43, 46] → σ' b = σ b) ∧ (∀ j, j ∉ ([36, 37, 38, 39, 40, 43] : List Int) → σ' 29 j = σ 29 j) ∧ pe_SW (σ' 29) (σ' 42) ∧ (0 ≤ σ' 29 36 ∧ σ' 29 36 < σ 29 22 ∧ 0 ≤ σ' 29 37 ∧ σ' 29 37 < σ 29 21 ∧ -1 ≤ σ' 29 40 ∧ σ' 29 40 < 192) ∧ (σ 29 43 ≤ σ' 29 43 ∧ σ' 29 43 ≤ σ 29 43 + 611))) := by
    refine pe_loop (fun x : Int × Int => (100 + x.2).toNat) _ _ ?_
    intro x hI ih
    obtain ⟨a, b⟩ := x
    dsimp only at hI ⊢
    obtain ⟨hI, hdf⟩ := hI
    refine pe_aload_n d_M_drawRow_50 rfl ?_
    refine pe_iload_n d_M_drawRow_51 rfl ?_
    refine pe_iload d_M_drawRow_52 rfl ?_
    refine pe_iadd d_M_drawRow_54 ?_
    refine pe_v1p d_M_drawRow_55 c_M_297 i_M_differs s_M_differs rfl rfl (t_M_differs hB (by omega)) (fun z55 hz55 => ?_)
    refine pe_if_ne (t := 67) d_M_drawRow_58 (by first | exact hB _ _ | exact hB0 _ _ | exact hBt _ _ | exact ⟨by omega, by omega⟩) (fun h58 => ?_) (fun h58 => ?_)
    · skip
      refine pe_aload_n d_M_drawRow_67 rfl ?_
      refine pe_getr f_M_50 d_M_drawRow_68 rfl rfl ?_
      refine pe_iload_n d_M_drawRow_71 rfl ?_
      refine pe_iload_n d_M_drawRow_72 rfl ?_
      refine pe_iadd d_M_drawRow_73 ?_
      refine pe_iald d_M_drawRow_74 rfl (by omega) (by omega) ?_
      refine pe_if_ne (t := 81) d_M_drawRow_75 (by first | exact hB _ _ | exact hB0 _ _ | exact hBt _ _ | exact ⟨by omega, by omega⟩) (fun h75 => ?_) (fun h75 => ?_)
      · skip
        exact J81 (_, _) (by (try dsimp only); omega)
      · skip
        have ha1 : a ≠ 0 := fun e => by
          have q := hD.2.1 r (by omega) (by omega)
          rw [e, Int.add_zero] at h75
          rw [h75] at q
          omega
        refine pe_iinc d_M_drawRow_78 rfl ?_
        exact J81 (_, _) (by (try dsimp only); omega)
    · skip
      have nb : b ≠ a := fun e => by have q := hz55.2.mpr (by rw [e]; exact hdf); omega
      refine pe_iinc d_M_drawRow_61 rfl ?_
      refine pe_goto (t := 50) d_M_drawRow_64 ?_
      exact ih (_, _) ⟨by (try dsimp only); omega, hdf⟩ (by (try dsimp only); omega)
  have J33 : ∀ a : Int, ((0 ≤ a ∧ a ≤ σ 29 21) ∧ (a < σ 29 21 → (σ 40 (σ 29 21 * r + a) ≠ σ 42 (σ 29 21 * r + a) ∨ σ 41 (σ 29 21 * r + a) ≠ σ 43 (σ 29 21 * r + a)))) → pe_G m_M_drawRow 33 [some (pe_r 29), some (pe_i r), some (pe_i (σ 29 21 * r)), some (pe_i a), none, none, none, none] [] σ (pe_qv (fun σ' => pe_B σ' ∧ (∀ b, b ∉ [29, 42, 43, 46] → σ' b = σ b) ∧ (∀ j, j ∉ ([36, 37, 38, 39, 40, 43] : List Int) → σ' 29 j = σ 29 j) ∧ pe_SW (σ' 29) (σ' 42) ∧ (0 ≤ σ' 29 36 ∧ σ' 29 36 < σ 29 22 ∧ 0 ≤ σ' 29 37 ∧ σ' 29 37 < σ 29 21 ∧ -1 ≤ σ' 29 40 ∧ σ' 29 40 < 192) ∧ (σ 29 43 ≤ σ' 29 43 ∧ σ' 29 43 ≤ σ 29 43 + 611))) := by
    intro a hI
    obtain ⟨hI, hdf⟩ := hI
    refine pe_iload_n d_M_drawRow_33 rfl ?_
    refine pe_aload_n d_M_drawRow_34 rfl ?_
    refine pe_geti f_M_78 d_M_drawRow_35 rfl rfl 21 rfl ?_
    refine pe_icmp_ne (t := 42) d_M_drawRow_38 (by first | exact hB _ _ | exact hB0 _ _ | exact hBt _ _ | exact ⟨by omega, by omega⟩) (by first | exact hB _ _ | exact hB0 _ _ | exact hBt _ _ | exact ⟨by omega, by omega⟩) (fun h38 => ?_) (fun h38 => ?_)
    · skip
      refine pe_aload_n d_M_drawRow_42 rfl ?_
      refine pe_geti f_M_78 d_M_drawRow_43 rfl rfl 21 rfl ?_
      refine pe_iconst d_M_drawRow_46 ?_
      refine pe_isub d_M_drawRow_47 ?_
      refine pe_istore d_M_drawRow_48 ?_
      exact J50 (_, _) ⟨by (try dsimp only); omega, hdf (by omega)⟩
    · skip
      refine pe_rv d_M_drawRow_41 ?_
      exact ⟨hB, (fun b hb => rfl), (fun j hj => rfl), hS, by omega, by omega⟩
  have J9 : ∀ a : Int, (0 ≤ a ∧ a ≤ σ 29 21) → pe_G m_M_drawRow 9 [some (pe_r 29), some (pe_i r), some (pe_i (σ 29 21 * r)), some (pe_i a), none, none, none, none] [] σ (pe_qv (fun σ' => pe_B σ' ∧ (∀ b, b ∉ [29, 42, 43, 46] → σ' b = σ b) ∧ (∀ j, j ∉ ([36, 37, 38, 39, 40, 43] : List Int) → σ' 29 j = σ 29 j) ∧ pe_SW (σ' 29) (σ' 42) ∧ (0 ≤ σ' 29 36 ∧ σ' 29 36 < σ 29 22 ∧ 0 ≤ σ' 29 37 ∧ σ' 29 37 < σ 29 21 ∧ -1 ≤ σ' 29 40 ∧ σ' 29 40 < 192) ∧ (σ 29 43 ≤ σ' 29 43 ∧ σ' 29 43 ≤ σ 29 43 + 611))) := by
    refine pe_loop (fun a : Int => (100 - a).toNat) _ _ ?_
    intro a hI ih
    refine pe_iload_n d_M_drawRow_9 rfl ?_
    refine pe_aload_n d_M_drawRow_10 rfl ?_
    refine pe_geti f_M_78 d_M_drawRow_11 rfl rfl 21 rfl ?_
    refine pe_icmp_ge (t := 33) d_M_drawRow_14 (by first | exact hB _ _ | exact hB0 _ _ | exact hBt _ _ | exact ⟨by omega, by omega⟩) (by first | exact hB _ _ | exact hB0 _ _ | exact hBt _ _ | exact ⟨by omega, by omega⟩) (fun h14 => ?_) (fun h14 => ?_)
    · skip
      first | exact J33 _ ⟨by omega, fun z => by omega⟩ | exact J33 _ ⟨by omega, fun _ => hz21.2.mp (by omega)⟩
    · skip
      refine pe_aload_n d_M_drawRow_17 rfl ?_
      refine pe_iload_n d_M_drawRow_18 rfl ?_
      refine pe_iload_n d_M_drawRow_19 rfl ?_
      refine pe_iadd d_M_drawRow_20 ?_
      refine pe_v1p d_M_drawRow_21 c_M_297 i_M_differs s_M_differs rfl rfl (t_M_differs hB (by omega)) (fun z21 hz21 => ?_)
      refine pe_if_ne (t := 33) d_M_drawRow_24 (by first | exact hB _ _ | exact hB0 _ _ | exact hBt _ _ | exact ⟨by omega, by omega⟩) (fun h24 => ?_) (fun h24 => ?_)
      · skip
        first | exact J33 _ ⟨by omega, fun z => by omega⟩ | exact J33 _ ⟨by omega, fun _ => hz21.2.mp (by omega)⟩
      · skip
        refine pe_iinc d_M_drawRow_27 rfl ?_
        refine pe_goto (t := 9) d_M_drawRow_30 ?_
        exact ih _ (by omega) (by omega)
  refine pe_aload_n d_M_drawRow_0 rfl ?_
  refine pe_geti f_M_78 d_M_drawRow_1 rfl rfl 21 rfl ?_
  refine pe_iload_n d_M_drawRow_4 rfl ?_
  refine pe_imul d_M_drawRow_5 ?_
  refine pe_istore_n d_M_drawRow_6 ?_
  refine pe_iconst d_M_drawRow_7 ?_
  refine pe_istore_n d_M_drawRow_8 ?_
  exact J9 _ (by omega)
