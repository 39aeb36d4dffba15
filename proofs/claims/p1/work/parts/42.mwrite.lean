set_option maxHeartbeats 1000000 in
theorem t_M_write {σ : pe_H} {k : Int} (hB : pe_B σ) (hW : 1 ≤ σ 29 21 ∧ σ 29 21 ≤ 24 ∧ 1 ≤ σ 29 22 ∧ σ 29 22 ≤ 8) (hp : 0 ≤ σ 29 36 ∧ σ 29 36 < σ 29 22 ∧ 0 ≤ σ 29 37 ∧ σ 29 37 < σ 29 21 ∧ -1 ≤ σ 29 40 ∧ σ 29 40 < 192) (hs : 0 ≤ σ 29 43 ∧ σ 29 43 + 3 ≤ 6000) (hS : pe_SW (σ 29) (σ 42)) (hk : 0 ≤ k ∧ k ≤ 65535) (hw : pe_wi k → σ 29 38 = 0 ∧ σ 29 37 + 1 < σ 29 21) (hz : k ≠ 0 ∨ (1 ≤ σ 29 37 ∧ σ 29 38 = 0)) : pe_M m_M_write [pe_r 29, pe_i k] σ (pe_qv (fun σ' => pe_B σ' ∧ (∀ b, b ∉ [29, 42, 43, 46] → σ' b = σ b) ∧ (∀ j, j ∉ ([36, 37, 38, 40, 43] : List Int) → σ' 29 j = σ 29 j) ∧ pe_SW (σ' 29) (σ' 42) ∧ (0 ≤ σ' 29 36 ∧ σ' 29 36 < σ 29 22 ∧ 0 ≤ σ' 29 37 ∧ σ' 29 37 < σ 29 21 ∧ -1 ≤ σ' 29 40 ∧ σ' 29 40 < 192) ∧ (σ 29 43 ≤ σ' 29 43 ∧ σ' 29 43 ≤ σ 29 43 + 3))) := by
  refine pe_in0 (lv := [some (pe_r 29), some (pe_i k), none, none]) ?_
  have hB0 := hB
  have J165 : ∀ x : Int × Int × pe_H, (pe_B x.2.2 ∧ (∀ b, b ∉ [29, 42, 43, 46] → x.2.2 b = σ b) ∧ (∀ j, j ∉ ([36, 37, 38, 43] : List Int) → x.2.2 29 j = σ 29 j) ∧ pe_SW (x.2.2 29) (x.2.2 42) ∧ (0 ≤ x.2.2 29 36 ∧ x.2.2 29 36 < σ 29 22 ∧ 0 ≤ x.2.2 29 37 ∧ x.2.2 29 37 + x.1 ≤ σ 29 21) ∧ (x.1 = 1 ∨ x.1 = 2) ∧ (0 ≤ x.2.1 ∧ x.2.1 < 192 ∧ (x.1 = 2 → x.2.1 + 1 < 192)) ∧ (pe_wi k → ∀ r, 0 ≤ r → r < σ 29 22 → σ 29 21 * r + (σ 29 21 - 1) ≠ x.2.1) ∧ (x.2.1 = 0 → k ≠ 0) ∧ (σ 29 43 ≤ x.2.2 29 43 ∧ x.2.2 29 43 ≤ σ 29 43 + 3)) → pe_G m_M_write 165 [some (pe_r 29), some (pe_i k), some (pe_i x.1), some (pe_i x.2.1)] [] x.2.2 (pe_qv (fun σ' => pe_B σ' ∧ (∀ b, b ∉ [29, 42, 43, 46] → σ' b = σ b) ∧ (∀ j, j ∉ ([36, 37, 38, 40, 43] : List Int) → σ' 29 j = σ 29 j) ∧ pe_SW (σ' 29) (σ' 42) ∧ (0 ≤ σ' 29 36 ∧ σ' 29 36 < σ 29 22 ∧ 0 ≤ σ' 29 37 ∧ σ' 29 37 < σ 29 21 ∧ -1 ≤ σ' 29 40 ∧ σ' 29 40 < 192) ∧ (σ 29 43 ≤ σ' 29 43 ∧ σ' 29 43 ≤ σ 29 43 + 3))) := by
    intro x hI
    obtain ⟨w, a, τ2⟩ := x
    dsimp only at hI ⊢
    obtain ⟨hB, hfr, hX⟩ := hI
    obtain ⟨hor, hS, hX⟩ := hX
    have w21 : τ2 29 21 = σ 29 21 := hor 21 (by decide)
    have w22 : τ2 29 22 = σ 29 22 := hor 22 (by decide)
    have w39 : τ2 29 39 = σ 29 39 := hor 39 (by decide)
    have w40 : τ2 29 40 = σ 29 40 := hor 40 (by decide)
    obtain ⟨hrc, hw2, ha2, hlc, ha0, hrm⟩ := hX
    have hBt := hB
    refine pe_aload_n d_M_write_165 rfl ?_
    refine pe_getr f_M_56 d_M_write_166 rfl rfl ?_
    refine pe_iload_n d_M_write_169 rfl ?_
    refine pe_iload_n d_M_write_170 rfl ?_
    refine pe_iastT d_M_write_171 rfl (by omega) (by omega) hB (by first | exact hB _ _ | exact hB0 _ _ | exact hBt _ _ | exact ⟨by omega, by omega⟩) (fun σ171 hB e171 o171 f171 => ?_)
    try have u171_0 : σ171 29 21 = τ2 29 21 := by first | exact o171 21 (by decide) | exact congrFun (f171 29 (by decide)) 21
    try have u171_1 : σ171 29 22 = τ2 29 22 := by first | exact o171 22 (by decide) | exact congrFun (f171 29 (by decide)) 22
    try have u171_2 : σ171 29 36 = τ2 29 36 := by first | exact o171 36 (by decide) | exact congrFun (f171 29 (by decide)) 36
    try have u171_3 : σ171 29 37 = τ2 29 37 := by first | exact o171 37 (by decide) | exact congrFun (f171 29 (by decide)) 37
    try have u171_4 : σ171 29 38 = τ2 29 38 := by first | exact o171 38 (by decide) | exact congrFun (f171 29 (by decide)) 38
    try have u171_5 : σ171 29 39 = τ2 29 39 := by first | exact o171 39 (by decide) | exact congrFun (f171 29 (by decide)) 39
    try have u171_6 : σ171 29 40 = τ2 29 40 := by first | exact o171 40 (by decide) | exact congrFun (f171 29 (by decide)) 40
    try have u171_7 : σ171 29 43 = τ2 29 43 := by first | exact o171 43 (by decide) | exact congrFun (f171 29 (by decide)) 43
    have hS6 : pe_SW (τ2 29) (σ171 42) := pe_SW_up hS e171 o171 (by omega) (fun e => ha0 e) (fun z r h1 h2 => by rw [show k % 65536 = k by omega] at z; rw [w21]; exact hlc z r h1 (by omega))
    refine pe_aload_n d_M_write_172 rfl ?_
    refine pe_getr f_M_59 d_M_write_173 rfl rfl ?_
    refine pe_iload_n d_M_write_176 rfl ?_
    refine pe_aload_n d_M_write_177 rfl ?_
    refine pe_geti f_M_272 d_M_write_178 rfl rfl 39 rfl ?_
    refine pe_iastT d_M_write_181 rfl (by omega) (by omega) hB (by first | exact hB _ _ | exact hB0 _ _ | exact hBt _ _ | exact ⟨by omega, by omega⟩) (fun σ181 hB e181 o181 f181 => ?_)
    try have u181_0 : σ181 29 21 = σ171 29 21 := by first | exact o181 21 (by decide) | exact congrFun (f181 29 (by decide)) 21
    try have u181_1 : σ181 29 22 = σ171 29 22 := by first | exact o181 22 (by decide) | exact congrFun (f181 29 (by decide)) 22
    try have u181_2 : σ181 29 36 = σ171 29 36 := by first | exact o181 36 (by decide) | exact congrFun (f181 29 (by decide)) 36
    try have u181_3 : σ181 29 37 = σ171 29 37 := by first | exact o181 37 (by decide) | exact congrFun (f181 29 (by decide)) 37
    try have u181_4 : σ181 29 38 = σ171 29 38 := by first | exact o181 38 (by decide) | exact congrFun (f181 29 (by decide)) 38
    try have u181_5 : σ181 29 39 = σ171 29 39 := by first | exact o181 39 (by decide) | exact congrFun (f181 29 (by decide)) 39
    try have u181_6 : σ181 29 40 = σ171 29 40 := by first | exact o181 40 (by decide) | exact congrFun (f181 29 (by decide)) 40
    try have u181_7 : σ181 29 43 = σ171 29 43 := by first | exact o181 43 (by decide) | exact congrFun (f181 29 (by decide)) 43
    refine pe_iload_n d_M_write_182 rfl ?_
    refine pe_iconst d_M_write_183 ?_
    refine pe_icmp_ne (t := 208) d_M_write_184 (by first | exact hB _ _ | exact hB0 _ _ | exact hBt _ _ | exact ⟨by omega, by omega⟩) (by first | exact hB _ _ | exact hB0 _ _ | exact hBt _ _ | exact ⟨by omega, by omega⟩) (fun h184 => ?_) (fun h184 => ?_)
    · skip
      refine pe_aload_n d_M_write_208 rfl ?_
      refine pe_iload_n d_M_write_209 rfl ?_
      refine pe_putiT f_M_68 g_11_40 d_M_write_210 rfl rfl 40 rfl hB (by first | exact hB _ _ | exact hB0 _ _ | exact hBt _ _ | exact ⟨by omega, by omega⟩) (fun σ210 hB e210 o210 f210 => ?_)
      try have u210_0 : σ210 29 21 = σ181 29 21 := by first | exact o210 21 (by decide) | exact congrFun (f210 29 (by decide)) 21
      try have u210_1 : σ210 29 22 = σ181 29 22 := by first | exact o210 22 (by decide) | exact congrFun (f210 29 (by decide)) 22
      try have u210_2 : σ210 29 36 = σ181 29 36 := by first | exact o210 36 (by decide) | exact congrFun (f210 29 (by decide)) 36
      try have u210_3 : σ210 29 37 = σ181 29 37 := by first | exact o210 37 (by decide) | exact congrFun (f210 29 (by decide)) 37
      try have u210_4 : σ210 29 38 = σ181 29 38 := by first | exact o210 38 (by decide) | exact congrFun (f210 29 (by decide)) 38
      try have u210_5 : σ210 29 39 = σ181 29 39 := by first | exact o210 39 (by decide) | exact congrFun (f210 29 (by decide)) 39
      try have u210_6 : σ210 29 40 = σ181 29 40 := by first | exact o210 40 (by decide) | exact congrFun (f210 29 (by decide)) 40
      try have u210_7 : σ210 29 43 = σ181 29 43 := by first | exact o210 43 (by decide) | exact congrFun (f210 29 (by decide)) 43
      refine pe_aload_n d_M_write_213 rfl ?_
      refine pe_dup d_M_write_214 ?_
      refine pe_geti f_M_266 d_M_write_215 rfl rfl 37 rfl ?_
      refine pe_iload_n d_M_write_218 rfl ?_
      refine pe_iadd d_M_write_219 ?_
      refine pe_putiT f_M_266 g_11_37 d_M_write_220 rfl rfl 37 rfl hB (by first | exact hB _ _ | exact hB0 _ _ | exact hBt _ _ | exact ⟨by omega, by omega⟩) (fun σ220 hB e220 o220 f220 => ?_)
      try have u220_0 : σ220 29 21 = σ210 29 21 := by first | exact o220 21 (by decide) | exact congrFun (f220 29 (by decide)) 21
      try have u220_1 : σ220 29 22 = σ210 29 22 := by first | exact o220 22 (by decide) | exact congrFun (f220 29 (by decide)) 22
      try have u220_2 : σ220 29 36 = σ210 29 36 := by first | exact o220 36 (by decide) | exact congrFun (f220 29 (by decide)) 36
      try have u220_3 : σ220 29 37 = σ210 29 37 := by first | exact o220 37 (by decide) | exact congrFun (f220 29 (by decide)) 37
      try have u220_4 : σ220 29 38 = σ210 29 38 := by first | exact o220 38 (by decide) | exact congrFun (f220 29 (by decide)) 38
      try have u220_5 : σ220 29 39 = σ210 29 39 := by first | exact o220 39 (by decide) | exact congrFun (f220 29 (by decide)) 39
      try have u220_6 : σ220 29 40 = σ210 29 40 := by first | exact o220 40 (by decide) | exact congrFun (f220 29 (by decide)) 40
      try have u220_7 : σ220 29 43 = σ210 29 43 := by first | exact o220 43 (by decide) | exact congrFun (f220 29 (by decide)) 43
      refine pe_aload_n d_M_write_223 rfl ?_
      refine pe_geti f_M_266 d_M_write_224 rfl rfl 37 rfl ?_
      refine pe_aload_n d_M_write_227 rfl ?_
      refine pe_geti f_M_78 d_M_write_228 rfl rfl 21 rfl ?_
      refine pe_icmp_ne (t := 249) d_M_write_231 (by first | exact hB _ _ | exact hB0 _ _ | exact hBt _ _ | exact ⟨by omega, by omega⟩) (by first | exact hB _ _ | exact hB0 _ _ | exact hBt _ _ | exact ⟨by omega, by omega⟩) (fun h231 => ?_) (fun h231 => ?_)
      · skip
        refine pe_rv d_M_write_249 ?_
        exact ⟨hB, (fun b hb => (f220 b (by simp at hb ⊢; try omega)).trans ((f210 b (by simp at hb ⊢; try omega)).trans ((f181 b (by simp at hb ⊢; try omega)).trans ((f171 b (by simp at hb ⊢; try omega)).trans (hfr b (by simp at hb ⊢; try omega)))))), (fun j hj => (o220 j (by simp at hj ⊢; try omega)).trans ((o210 j (by simp at hj ⊢; try omega)).trans ((congrFun (f181 29 (by decide)) j).trans ((congrFun (f171 29 (by decide)) j).trans (hor j (by simp at hj ⊢; try omega)))))), pe_SW_to hS6 (by omega) (by omega) (by first | exact ((f220 42 (by decide)).trans ((f210 42 (by decide)).trans ((f181 42 (by decide)).trans ((f171 42 (by decide)).trans (rfl))))) | exact ((f220 42 (by decide)).trans ((f210 42 (by decide)).trans ((f181 42 (by decide)).trans (rfl))))), by omega, by omega⟩
      · skip
        refine pe_aload_n d_M_write_234 rfl ?_
        refine pe_aload_n d_M_write_235 rfl ?_
        refine pe_geti f_M_78 d_M_write_236 rfl rfl 21 rfl ?_
        refine pe_iconst d_M_write_239 ?_
        refine pe_isub d_M_write_240 ?_
        refine pe_putiT f_M_266 g_11_37 d_M_write_241 rfl rfl 37 rfl hB (by first | exact hB _ _ | exact hB0 _ _ | exact hBt _ _ | exact ⟨by omega, by omega⟩) (fun σ241 hB e241 o241 f241 => ?_)
        try have u241_0 : σ241 29 21 = σ220 29 21 := by first | exact o241 21 (by decide) | exact congrFun (f241 29 (by decide)) 21
        try have u241_1 : σ241 29 22 = σ220 29 22 := by first | exact o241 22 (by decide) | exact congrFun (f241 29 (by decide)) 22
        try have u241_2 : σ241 29 36 = σ220 29 36 := by first | exact o241 36 (by decide) | exact congrFun (f241 29 (by decide)) 36
        try have u241_3 : σ241 29 37 = σ220 29 37 := by first | exact o241 37 (by decide) | exact congrFun (f241 29 (by decide)) 37
        try have u241_4 : σ241 29 38 = σ220 29 38 := by first | exact o241 38 (by decide) | exact congrFun (f241 29 (by decide)) 38
        try have u241_5 : σ241 29 39 = σ220 29 39 := by first | exact o241 39 (by decide) | exact congrFun (f241 29 (by decide)) 39
        try have u241_6 : σ241 29 40 = σ220 29 40 := by first | exact o241 40 (by decide) | exact congrFun (f241 29 (by decide)) 40
        try have u241_7 : σ241 29 43 = σ220 29 43 := by first | exact o241 43 (by decide) | exact congrFun (f241 29 (by decide)) 43
        refine pe_aload_n d_M_write_244 rfl ?_
        refine pe_iconst d_M_write_245 ?_
        refine pe_putzT f_M_260 g_11_38 d_M_write_246 rfl rfl (by first | exact Or.inl rfl | exact Or.inr rfl | omega) 38 rfl hB (fun σ246 hB e246 o246 f246 => ?_)
        try have u246_0 : σ246 29 21 = σ241 29 21 := by first | exact o246 21 (by decide) | exact congrFun (f246 29 (by decide)) 21
        try have u246_1 : σ246 29 22 = σ241 29 22 := by first | exact o246 22 (by decide) | exact congrFun (f246 29 (by decide)) 22
        try have u246_2 : σ246 29 36 = σ241 29 36 := by first | exact o246 36 (by decide) | exact congrFun (f246 29 (by decide)) 36
        try have u246_3 : σ246 29 37 = σ241 29 37 := by first | exact o246 37 (by decide) | exact congrFun (f246 29 (by decide)) 37
        try have u246_4 : σ246 29 38 = σ241 29 38 := by first | exact o246 38 (by decide) | exact congrFun (f246 29 (by decide)) 38
        try have u246_5 : σ246 29 39 = σ241 29 39 := by first | exact o246 39 (by decide) | exact congrFun (f246 29 (by decide)) 39
        try have u246_6 : σ246 29 40 = σ241 29 40 := by first | exact o246 40 (by decide) | exact congrFun (f246 29 (by decide)) 40
        try have u246_7 : σ246 29 43 = σ241 29 43 := by first | exact o246 43 (by decide) | exact congrFun (f246 29 (by decide)) 43
        refine pe_rv d_M_write_249 ?_
        exact ⟨hB, (fun b hb => (f246 b (by simp at hb ⊢; try omega)).trans ((f241 b (by simp at hb ⊢; try omega)).trans ((f220 b (by simp at hb ⊢; try omega)).trans ((f210 b (by simp at hb ⊢; try omega)).trans ((f181 b (by simp at hb ⊢; try omega)).trans ((f171 b (by simp at hb ⊢; try omega)).trans (hfr b (by simp at hb ⊢; try omega)))))))), (fun j hj => (o246 j (by simp at hj ⊢; try omega)).trans ((o241 j (by simp at hj ⊢; try omega)).trans ((o220 j (by simp at hj ⊢; try omega)).trans ((o210 j (by simp at hj ⊢; try omega)).trans ((congrFun (f181 29 (by decide)) j).trans ((congrFun (f171 29 (by decide)) j).trans (hor j (by simp at hj ⊢; try omega)))))))), pe_SW_to hS6 (by omega) (by omega) (by first | exact ((f246 42 (by decide)).trans ((f241 42 (by decide)).trans ((f220 42 (by decide)).trans ((f210 42 (by decide)).trans ((f181 42 (by decide)).trans ((f171 42 (by decide)).trans (rfl))))))) | exact ((f246 42 (by decide)).trans ((f241 42 (by decide)).trans ((f220 42 (by decide)).trans ((f210 42 (by decide)).trans ((f181 42 (by decide)).trans (rfl))))))), by omega, by omega⟩
    · skip
      refine pe_aload_n d_M_write_187 rfl ?_
      refine pe_getr f_M_56 d_M_write_188 rfl rfl ?_
      refine pe_iload_n d_M_write_191 rfl ?_
      refine pe_iconst d_M_write_192 ?_
      refine pe_iadd d_M_write_193 ?_
      refine pe_iconst d_M_write_194 ?_
      refine pe_iastT d_M_write_195 rfl (by omega) (by omega) hB (by first | exact hB _ _ | exact hB0 _ _ | exact hBt _ _ | exact ⟨by omega, by omega⟩) (fun σ195 hB e195 o195 f195 => ?_)
      try have u195_0 : σ195 29 21 = σ181 29 21 := by first | exact o195 21 (by decide) | exact congrFun (f195 29 (by decide)) 21
      try have u195_1 : σ195 29 22 = σ181 29 22 := by first | exact o195 22 (by decide) | exact congrFun (f195 29 (by decide)) 22
      try have u195_2 : σ195 29 36 = σ181 29 36 := by first | exact o195 36 (by decide) | exact congrFun (f195 29 (by decide)) 36
      try have u195_3 : σ195 29 37 = σ181 29 37 := by first | exact o195 37 (by decide) | exact congrFun (f195 29 (by decide)) 37
      try have u195_4 : σ195 29 38 = σ181 29 38 := by first | exact o195 38 (by decide) | exact congrFun (f195 29 (by decide)) 38
      try have u195_5 : σ195 29 39 = σ181 29 39 := by first | exact o195 39 (by decide) | exact congrFun (f195 29 (by decide)) 39
      try have u195_6 : σ195 29 40 = σ181 29 40 := by first | exact o195 40 (by decide) | exact congrFun (f195 29 (by decide)) 40
      try have u195_7 : σ195 29 43 = σ181 29 43 := by first | exact o195 43 (by decide) | exact congrFun (f195 29 (by decide)) 43
      have hS6 : pe_SW (τ2 29) (σ195 42) := pe_SW_up hS6 e195 (fun j hj => by rw [o195 j hj, f181 42 (by decide)]) (by omega) (fun e => by omega) (fun z => absurd z (pe_nw (by omega)))
      refine pe_aload_n d_M_write_196 rfl ?_
      refine pe_getr f_M_59 d_M_write_197 rfl rfl ?_
      refine pe_iload_n d_M_write_200 rfl ?_
      refine pe_iconst d_M_write_201 ?_
      refine pe_iadd d_M_write_202 ?_
      refine pe_aload_n d_M_write_203 rfl ?_
      refine pe_geti f_M_272 d_M_write_204 rfl rfl 39 rfl ?_
      refine pe_iastT d_M_write_207 rfl (by omega) (by omega) hB (by first | exact hB _ _ | exact hB0 _ _ | exact hBt _ _ | exact ⟨by omega, by omega⟩) (fun σ207 hB e207 o207 f207 => ?_)
      try have u207_0 : σ207 29 21 = σ195 29 21 := by first | exact o207 21 (by decide) | exact congrFun (f207 29 (by decide)) 21
      try have u207_1 : σ207 29 22 = σ195 29 22 := by first | exact o207 22 (by decide) | exact congrFun (f207 29 (by decide)) 22
      try have u207_2 : σ207 29 36 = σ195 29 36 := by first | exact o207 36 (by decide) | exact congrFun (f207 29 (by decide)) 36
      try have u207_3 : σ207 29 37 = σ195 29 37 := by first | exact o207 37 (by decide) | exact congrFun (f207 29 (by decide)) 37
      try have u207_4 : σ207 29 38 = σ195 29 38 := by first | exact o207 38 (by decide) | exact congrFun (f207 29 (by decide)) 38
      try have u207_5 : σ207 29 39 = σ195 29 39 := by first | exact o207 39 (by decide) | exact congrFun (f207 29 (by decide)) 39
      try have u207_6 : σ207 29 40 = σ195 29 40 := by first | exact o207 40 (by decide) | exact congrFun (f207 29 (by decide)) 40
      try have u207_7 : σ207 29 43 = σ195 29 43 := by first | exact o207 43 (by decide) | exact congrFun (f207 29 (by decide)) 43
      refine pe_aload_n d_M_write_208 rfl ?_
      refine pe_iload_n d_M_write_209 rfl ?_
      refine pe_putiT f_M_68 g_11_40 d_M_write_210 rfl rfl 40 rfl hB (by first | exact hB _ _ | exact hB0 _ _ | exact hBt _ _ | exact ⟨by omega, by omega⟩) (fun σ210 hB e210 o210 f210 => ?_)
      try have u210_0 : σ210 29 21 = σ207 29 21 := by first | exact o210 21 (by decide) | exact congrFun (f210 29 (by decide)) 21
      try have u210_1 : σ210 29 22 = σ207 29 22 := by first | exact o210 22 (by decide) | exact congrFun (f210 29 (by decide)) 22
      try have u210_2 : σ210 29 36 = σ207 29 36 := by first | exact o210 36 (by decide) | exact congrFun (f210 29 (by decide)) 36
      try have u210_3 : σ210 29 37 = σ207 29 37 := by first | exact o210 37 (by decide) | exact congrFun (f210 29 (by decide)) 37
      try have u210_4 : σ210 29 38 = σ207 29 38 := by first | exact o210 38 (by decide) | exact congrFun (f210 29 (by decide)) 38
      try have u210_5 : σ210 29 39 = σ207 29 39 := by first | exact o210 39 (by decide) | exact congrFun (f210 29 (by decide)) 39
      try have u210_6 : σ210 29 40 = σ207 29 40 := by first | exact o210 40 (by decide) | exact congrFun (f210 29 (by decide)) 40
      try have u210_7 : σ210 29 43 = σ207 29 43 := by first | exact o210 43 (by decide) | exact congrFun (f210 29 (by decide)) 43
      refine pe_aload_n d_M_write_213 rfl ?_
      refine pe_dup d_M_write_214 ?_
      refine pe_geti f_M_266 d_M_write_215 rfl rfl 37 rfl ?_
      refine pe_iload_n d_M_write_218 rfl ?_
      refine pe_iadd d_M_write_219 ?_
      refine pe_putiT f_M_266 g_11_37 d_M_write_220 rfl rfl 37 rfl hB (by first | exact hB _ _ | exact hB0 _ _ | exact hBt _ _ | exact ⟨by omega, by omega⟩) (fun σ220 hB e220 o220 f220 => ?_)
      try have u220_0 : σ220 29 21 = σ210 29 21 := by first | exact o220 21 (by decide) | exact congrFun (f220 29 (by decide)) 21
      try have u220_1 : σ220 29 22 = σ210 29 22 := by first | exact o220 22 (by decide) | exact congrFun (f220 29 (by decide)) 22
      try have u220_2 : σ220 29 36 = σ210 29 36 := by first | exact o220 36 (by decide) | exact congrFun (f220 29 (by decide)) 36
      try have u220_3 : σ220 29 37 = σ210 29 37 := by first | exact o220 37 (by decide) | exact congrFun (f220 29 (by decide)) 37
      try have u220_4 : σ220 29 38 = σ210 29 38 := by first | exact o220 38 (by decide) | exact congrFun (f220 29 (by decide)) 38
      try have u220_5 : σ220 29 39 = σ210 29 39 := by first | exact o220 39 (by decide) | exact congrFun (f220 29 (by decide)) 39
      try have u220_6 : σ220 29 40 = σ210 29 40 := by first | exact o220 40 (by decide) | exact congrFun (f220 29 (by decide)) 40
      try have u220_7 : σ220 29 43 = σ210 29 43 := by first | exact o220 43 (by decide) | exact congrFun (f220 29 (by decide)) 43
      refine pe_aload_n d_M_write_223 rfl ?_
      refine pe_geti f_M_266 d_M_write_224 rfl rfl 37 rfl ?_
      refine pe_aload_n d_M_write_227 rfl ?_
      refine pe_geti f_M_78 d_M_write_228 rfl rfl 21 rfl ?_
      refine pe_icmp_ne (t := 249) d_M_write_231 (by first | exact hB _ _ | exact hB0 _ _ | exact hBt _ _ | exact ⟨by omega, by omega⟩) (by first | exact hB _ _ | exact hB0 _ _ | exact hBt _ _ | exact ⟨by omega, by omega⟩) (fun h231 => ?_) (fun h231 => ?_)
      · skip
        refine pe_rv d_M_write_249 ?_
        exact ⟨hB, (fun b hb => (f220 b (by simp at hb ⊢; try omega)).trans ((f210 b (by simp at hb ⊢; try omega)).trans ((f207 b (by simp at hb ⊢; try omega)).trans ((f195 b (by simp at hb ⊢; try omega)).trans ((f181 b (by simp at hb ⊢; try omega)).trans ((f171 b (by simp at hb ⊢; try omega)).trans (hfr b (by simp at hb ⊢; try omega)))))))), (fun j hj => (o220 j (by simp at hj ⊢; try omega)).trans ((o210 j (by simp at hj ⊢; try omega)).trans ((congrFun (f207 29 (by decide)) j).trans ((congrFun (f195 29 (by decide)) j).trans ((congrFun (f181 29 (by decide)) j).trans ((congrFun (f171 29 (by decide)) j).trans (hor j (by simp at hj ⊢; try omega)))))))), pe_SW_to hS6 (by omega) (by omega) (by first | exact ((f220 42 (by decide)).trans ((f210 42 (by decide)).trans ((f207 42 (by decide)).trans (rfl)))) | exact ((f220 42 (by decide)).trans ((f210 42 (by decide)).trans ((f207 42 (by decide)).trans ((f195 42 (by decide)).trans ((f181 42 (by decide)).trans (rfl))))))), by omega, by omega⟩
      · skip
        refine pe_aload_n d_M_write_234 rfl ?_
        refine pe_aload_n d_M_write_235 rfl ?_
        refine pe_geti f_M_78 d_M_write_236 rfl rfl 21 rfl ?_
        refine pe_iconst d_M_write_239 ?_
        refine pe_isub d_M_write_240 ?_
        refine pe_putiT f_M_266 g_11_37 d_M_write_241 rfl rfl 37 rfl hB (by first | exact hB _ _ | exact hB0 _ _ | exact hBt _ _ | exact ⟨by omega, by omega⟩) (fun σ241 hB e241 o241 f241 => ?_)
        try have u241_0 : σ241 29 21 = σ220 29 21 := by first | exact o241 21 (by decide) | exact congrFun (f241 29 (by decide)) 21
        try have u241_1 : σ241 29 22 = σ220 29 22 := by first | exact o241 22 (by decide) | exact congrFun (f241 29 (by decide)) 22
        try have u241_2 : σ241 29 36 = σ220 29 36 := by first | exact o241 36 (by decide) | exact congrFun (f241 29 (by decide)) 36
        try have u241_3 : σ241 29 37 = σ220 29 37 := by first | exact o241 37 (by decide) | exact congrFun (f241 29 (by decide)) 37
        try have u241_4 : σ241 29 38 = σ220 29 38 := by first | exact o241 38 (by decide) | exact congrFun (f241 29 (by decide)) 38
        try have u241_5 : σ241 29 39 = σ220 29 39 := by first | exact o241 39 (by decide) | exact congrFun (f241 29 (by decide)) 39
        try have u241_6 : σ241 29 40 = σ220 29 40 := by first | exact o241 40 (by decide) | exact congrFun (f241 29 (by decide)) 40
        try have u241_7 : σ241 29 43 = σ220 29 43 := by first | exact o241 43 (by decide) | exact congrFun (f241 29 (by decide)) 43
        refine pe_aload_n d_M_write_244 rfl ?_
        refine pe_iconst d_M_write_245 ?_
        refine pe_putzT f_M_260 g_11_38 d_M_write_246 rfl rfl (by first | exact Or.inl rfl | exact Or.inr rfl | omega) 38 rfl hB (fun σ246 hB e246 o246 f246 => ?_)
        try have u246_0 : σ246 29 21 = σ241 29 21 := by first | exact o246 21 (by decide) | exact congrFun (f246 29 (by decide)) 21
        try have u246_1 : σ246 29 22 = σ241 29 22 := by first | exact o246 22 (by decide) | exact congrFun (f246 29 (by decide)) 22
        try have u246_2 : σ246 29 36 = σ241 29 36 := by first | exact o246 36 (by decide) | exact congrFun (f246 29 (by decide)) 36
        try have u246_3 : σ246 29 37 = σ241 29 37 := by first | exact o246 37 (by decide) | exact congrFun (f246 29 (by decide)) 37
        try have u246_4 : σ246 29 38 = σ241 29 38 := by first | exact o246 38 (by decide) | exact congrFun (f246 29 (by decide)) 38
        try have u246_5 : σ246 29 39 = σ241 29 39 := by first | exact o246 39 (by decide) | exact congrFun (f246 29 (by decide)) 39
        try have u246_6 : σ246 29 40 = σ241 29 40 := by first | exact o246 40 (by decide) | exact congrFun (f246 29 (by decide)) 40
        try have u246_7 : σ246 29 43 = σ241 29 43 := by first | exact o246 43 (by decide) | exact congrFun (f246 29 (by decide)) 43
        refine pe_rv d_M_write_249 ?_
        exact ⟨hB, (fun b hb => (f246 b (by simp at hb ⊢; try omega)).trans ((f241 b (by simp at hb ⊢; try omega)).trans ((f220 b (by simp at hb ⊢; try omega)).trans ((f210 b (by simp at hb ⊢; try omega)).trans ((f207 b (by simp at hb ⊢; try omega)).trans ((f195 b (by simp at hb ⊢; try omega)).trans ((f181 b (by simp at hb ⊢; try omega)).trans ((f171 b (by simp at hb ⊢; try omega)).trans (hfr b (by simp at hb ⊢; try omega)))))))))), (fun j hj => (o246 j (by simp at hj ⊢; try omega)).trans ((o241 j (by simp at hj ⊢; try omega)).trans ((o220 j (by simp at hj ⊢; try omega)).trans ((o210 j (by simp at hj ⊢; try omega)).trans ((congrFun (f207 29 (by decide)) j).trans ((congrFun (f195 29 (by decide)) j).trans ((congrFun (f181 29 (by decide)) j).trans ((congrFun (f171 29 (by decide)) j).trans (hor j (by simp at hj ⊢; try omega)))))))))), pe_SW_to hS6 (by omega) (by omega) (by first | exact ((f246 42 (by decide)).trans ((f241 42 (by decide)).trans ((f220 42 (by decide)).trans ((f210 42 (by decide)).trans ((f207 42 (by decide)).trans (rfl)))))) | exact ((f246 42 (by decide)).trans ((f241 42 (by decide)).trans ((f220 42 (by decide)).trans ((f210 42 (by decide)).trans ((f207 42 (by decide)).trans ((f195 42 (by decide)).trans ((f181 42 (by decide)).trans (rfl))))))))), by omega, by omega⟩
  have J120 : ∀ x : Int × pe_H, (pe_B x.2 ∧ (∀ b, b ∉ [29, 46] → x.2 b = σ b) ∧ (∀ j, j ∉ ([36, 37, 38, 43] : List Int) → x.2 29 j = σ 29 j) ∧ pe_SW (x.2 29) (x.2 42) ∧ (x.1 = k) ∧ (0 ≤ x.2 29 36 ∧ x.2 29 36 < σ 29 22 ∧ 0 ≤ x.2 29 37 ∧ x.2 29 37 < σ 29 21) ∧ (pe_wi k → x.2 29 37 + 1 < σ 29 21) ∧ (k = 0 → 1 ≤ x.2 29 37) ∧ (σ 29 43 ≤ x.2 29 43 ∧ x.2 29 43 ≤ σ 29 43 + 3)) → pe_G m_M_write 120 [some (pe_r 29), some (pe_i k), none, none] [] x.2 (pe_qv (fun σ' => pe_B σ' ∧ (∀ b, b ∉ [29, 42, 43, 46] → σ' b = σ b) ∧ (∀ j, j ∉ ([36, 37, 38, 40, 43] : List Int) → σ' 29 j = σ 29 j) ∧ pe_SW (σ' 29) (σ' 42) ∧ (0 ≤ σ' 29 36 ∧ σ' 29 36 < σ 29 22 ∧ 0 ≤ σ' 29 37 ∧ σ' 29 37 < σ 29 21 ∧ -1 ≤ σ' 29 40 ∧ σ' 29 40 < 192) ∧ (σ 29 43 ≤ σ' 29 43 ∧ σ' 29 43 ≤ σ 29 43 + 3))) := by
    intro x hI
    obtain ⟨k9, τ⟩ := x
    dsimp only at hI ⊢
    obtain ⟨hB, hfr, hX⟩ := hI
    obtain ⟨hor, hS, hX⟩ := hX
    have w21 : τ 29 21 = σ 29 21 := hor 21 (by decide)
    have w22 : τ 29 22 = σ 29 22 := hor 22 (by decide)
    have w39 : τ 29 39 = σ 29 39 := hor 39 (by decide)
    have w40 : τ 29 40 = σ 29 40 := hor 40 (by decide)
    obtain ⟨hk9, hrc, hwk, hk0, hrm⟩ := hX
    have ix := pe_ix (W := τ 29 21) (H := σ 29 22) (r := τ 29 36) (c := τ 29 37) (by omega) (by omega) (by omega) (by omega)
    have hBt := hB
    refine pe_iload_n d_M_write_120 rfl ?_
    refine pe_s1p d_M_write_121 c_M_97 z_M_isWide (t_M_isWide (by first | exact hB _ _ | exact hB0 _ _ | exact hBt _ _ | exact ⟨by omega, by omega⟩)) (fun z121 hz121 => ?_)
    refine pe_if_eq (t := 131) d_M_write_124 (by first | exact hB _ _ | exact hB0 _ _ | exact hBt _ _ | exact ⟨by omega, by omega⟩) (fun h124 => ?_) (fun h124 => ?_)
    · skip
      refine pe_iconst d_M_write_131 ?_
      refine pe_istore_n d_M_write_132 ?_
      refine pe_aload_n d_M_write_133 rfl ?_
      refine pe_geti f_M_78 d_M_write_134 rfl rfl 21 rfl ?_
      refine pe_aload_n d_M_write_137 rfl ?_
      refine pe_geti f_M_263 d_M_write_138 rfl rfl 36 rfl ?_
      refine pe_imul d_M_write_141 ?_
      refine pe_aload_n d_M_write_142 rfl ?_
      refine pe_geti f_M_266 d_M_write_143 rfl rfl 37 rfl ?_
      refine pe_iadd d_M_write_146 ?_
      refine pe_istore_n d_M_write_147 ?_
      have hwl : pe_wi (τ 42 (τ 29 21 * τ 29 36 + τ 29 37) % 65536) → τ 29 37 + 1 < τ 29 21 := fun z => by
        by_cases e : τ 29 37 + 1 < τ 29 21
        · exact e
        · exact absurd z (by have q := hS.2.2 (τ 29 36) (by omega) (by omega); rw [show τ 29 37 = τ 29 21 - 1 by omega]; exact q)
      refine pe_aload_n d_M_write_148 rfl ?_
      refine pe_iload_n d_M_write_149 rfl ?_
      refine pe_v1v d_M_write_150 c_M_269 i_M_blankHalf s_M_blankHalf rfl rfl (t_M_blankHalf hB hS (by omega) (fun z => by have q := hwl z; omega)) (fun σ150 hz150 => ?_)
      obtain ⟨hB, f150, x150⟩ := hz150
      try have u150_0 : σ150 29 21 = τ 29 21 := by first | exact o150 21 (by decide) | exact congrFun (f150 29 (by decide)) 21
      try have u150_1 : σ150 29 22 = τ 29 22 := by first | exact o150 22 (by decide) | exact congrFun (f150 29 (by decide)) 22
      try have u150_2 : σ150 29 36 = τ 29 36 := by first | exact o150 36 (by decide) | exact congrFun (f150 29 (by decide)) 36
      try have u150_3 : σ150 29 37 = τ 29 37 := by first | exact o150 37 (by decide) | exact congrFun (f150 29 (by decide)) 37
      try have u150_4 : σ150 29 38 = τ 29 38 := by first | exact o150 38 (by decide) | exact congrFun (f150 29 (by decide)) 38
      try have u150_5 : σ150 29 39 = τ 29 39 := by first | exact o150 39 (by decide) | exact congrFun (f150 29 (by decide)) 39
      try have u150_6 : σ150 29 40 = τ 29 40 := by first | exact o150 40 (by decide) | exact congrFun (f150 29 (by decide)) 40
      try have u150_7 : σ150 29 43 = τ 29 43 := by first | exact o150 43 (by decide) | exact congrFun (f150 29 (by decide)) 43
      refine pe_iload_n d_M_write_153 rfl ?_
      refine pe_iconst d_M_write_154 ?_
      refine pe_icmp_ne (t := 165) d_M_write_155 (by first | exact hB _ _ | exact hB0 _ _ | exact hBt _ _ | exact ⟨by omega, by omega⟩) (by first | exact hB _ _ | exact hB0 _ _ | exact hBt _ _ | exact ⟨by omega, by omega⟩) (fun h155 => ?_) (fun h155 => ?_)
      · skip
        have hlc : pe_wi k → ∀ r, 0 ≤ r → r < σ 29 22 → σ 29 21 * r + (σ 29 21 - 1) ≠ τ 29 21 * τ 29 36 + τ 29 37 := (fun z r h1 h2 e => by
            have q2 := hwk z
            have q3 := pe_col (W := τ 29 21) (r := r) (c := τ 29 21 - 1) (r' := τ 29 36) (c' := τ 29 37) (by omega) (by omega) (by rw [← w21] at e; exact e)
            omega)
        first
        | exact J165 (_, _, _) ⟨hB, (fun b hb => (f150 b (by simp at hb ⊢; try omega)).trans (hfr b (by simp at hb ⊢; try omega))), (fun j hj => (congrFun (f150 29 (by decide)) j).trans (hor j (by simp at hj ⊢; try omega))), x162, by (try dsimp only); omega, by (try dsimp only); omega, by (try dsimp only); omega, hlc, by (try dsimp only); omega, by (try dsimp only); omega⟩
        | exact J165 (_, _, _) ⟨hB, (fun b hb => (f150 b (by simp at hb ⊢; try omega)).trans (hfr b (by simp at hb ⊢; try omega))), (fun j hj => (congrFun (f150 29 (by decide)) j).trans (hor j (by simp at hj ⊢; try omega))), x150, by (try dsimp only); omega, by (try dsimp only); omega, by (try dsimp only); omega, hlc, by (try dsimp only); omega, by (try dsimp only); omega⟩
      · skip
        have hk2 : pe_wi k := hz121.2.mp (by omega)
        have q2 := hwk hk2
        have hwl2 : pe_wi (σ150 42 (τ 29 21 * τ 29 36 + τ 29 37 + 1) % 65536) → τ 29 21 * τ 29 36 + τ 29 37 + 1 + 1 < 192 := fun z => by
          by_cases e : τ 29 37 + 2 < τ 29 21
          · omega
          · exact absurd z (by have q := x150.2.2 (τ 29 36) (by omega) (by omega); rw [show σ150 29 21 = τ 29 21 by omega, show τ 29 21 * τ 29 36 + (τ 29 21 - 1) = τ 29 21 * τ 29 36 + τ 29 37 + 1 by omega] at q; exact q)
        refine pe_aload_n d_M_write_158 rfl ?_
        refine pe_iload_n d_M_write_159 rfl ?_
        refine pe_iconst d_M_write_160 ?_
        refine pe_iadd d_M_write_161 ?_
        refine pe_v1v d_M_write_162 c_M_269 i_M_blankHalf s_M_blankHalf rfl rfl (t_M_blankHalf hB x150 (by omega) hwl2) (fun σ162 hz162 => ?_)
        obtain ⟨hB, f162, x162⟩ := hz162
        try have u162_0 : σ162 29 21 = σ150 29 21 := by first | exact o162 21 (by decide) | exact congrFun (f162 29 (by decide)) 21
        try have u162_1 : σ162 29 22 = σ150 29 22 := by first | exact o162 22 (by decide) | exact congrFun (f162 29 (by decide)) 22
        try have u162_2 : σ162 29 36 = σ150 29 36 := by first | exact o162 36 (by decide) | exact congrFun (f162 29 (by decide)) 36
        try have u162_3 : σ162 29 37 = σ150 29 37 := by first | exact o162 37 (by decide) | exact congrFun (f162 29 (by decide)) 37
        try have u162_4 : σ162 29 38 = σ150 29 38 := by first | exact o162 38 (by decide) | exact congrFun (f162 29 (by decide)) 38
        try have u162_5 : σ162 29 39 = σ150 29 39 := by first | exact o162 39 (by decide) | exact congrFun (f162 29 (by decide)) 39
        try have u162_6 : σ162 29 40 = σ150 29 40 := by first | exact o162 40 (by decide) | exact congrFun (f162 29 (by decide)) 40
        try have u162_7 : σ162 29 43 = σ150 29 43 := by first | exact o162 43 (by decide) | exact congrFun (f162 29 (by decide)) 43
        have hlc : pe_wi k → ∀ r, 0 ≤ r → r < σ 29 22 → σ 29 21 * r + (σ 29 21 - 1) ≠ τ 29 21 * τ 29 36 + τ 29 37 := (fun z r h1 h2 e => by
            have q2 := hwk z
            have q3 := pe_col (W := τ 29 21) (r := r) (c := τ 29 21 - 1) (r' := τ 29 36) (c' := τ 29 37) (by omega) (by omega) (by rw [← w21] at e; exact e)
            omega)
        first
        | exact J165 (_, _, _) ⟨hB, (fun b hb => (f162 b (by simp at hb ⊢; try omega)).trans ((f150 b (by simp at hb ⊢; try omega)).trans (hfr b (by simp at hb ⊢; try omega)))), (fun j hj => (congrFun (f162 29 (by decide)) j).trans ((congrFun (f150 29 (by decide)) j).trans (hor j (by simp at hj ⊢; try omega)))), x162, by (try dsimp only); omega, by (try dsimp only); omega, by (try dsimp only); omega, hlc, by (try dsimp only); omega, by (try dsimp only); omega⟩
        | exact J165 (_, _, _) ⟨hB, (fun b hb => (f162 b (by simp at hb ⊢; try omega)).trans ((f150 b (by simp at hb ⊢; try omega)).trans (hfr b (by simp at hb ⊢; try omega)))), (fun j hj => (congrFun (f162 29 (by decide)) j).trans ((congrFun (f150 29 (by decide)) j).trans (hor j (by simp at hj ⊢; try omega)))), x150, by (try dsimp only); omega, by (try dsimp only); omega, by (try dsimp only); omega, hlc, by (try dsimp only); omega, by (try dsimp only); omega⟩
    · skip
      refine pe_iconst d_M_write_127 ?_
      refine pe_goto (t := 132) d_M_write_128 ?_
      refine pe_istore_n d_M_write_132 ?_
      refine pe_aload_n d_M_write_133 rfl ?_
      refine pe_geti f_M_78 d_M_write_134 rfl rfl 21 rfl ?_
      refine pe_aload_n d_M_write_137 rfl ?_
      refine pe_geti f_M_263 d_M_write_138 rfl rfl 36 rfl ?_
      refine pe_imul d_M_write_141 ?_
      refine pe_aload_n d_M_write_142 rfl ?_
      refine pe_geti f_M_266 d_M_write_143 rfl rfl 37 rfl ?_
      refine pe_iadd d_M_write_146 ?_
      refine pe_istore_n d_M_write_147 ?_
      have hwl : pe_wi (τ 42 (τ 29 21 * τ 29 36 + τ 29 37) % 65536) → τ 29 37 + 1 < τ 29 21 := fun z => by
        by_cases e : τ 29 37 + 1 < τ 29 21
        · exact e
        · exact absurd z (by have q := hS.2.2 (τ 29 36) (by omega) (by omega); rw [show τ 29 37 = τ 29 21 - 1 by omega]; exact q)
      refine pe_aload_n d_M_write_148 rfl ?_
      refine pe_iload_n d_M_write_149 rfl ?_
      refine pe_v1v d_M_write_150 c_M_269 i_M_blankHalf s_M_blankHalf rfl rfl (t_M_blankHalf hB hS (by omega) (fun z => by have q := hwl z; omega)) (fun σ150 hz150 => ?_)
      obtain ⟨hB, f150, x150⟩ := hz150
      try have u150_0 : σ150 29 21 = τ 29 21 := by first | exact o150 21 (by decide) | exact congrFun (f150 29 (by decide)) 21
      try have u150_1 : σ150 29 22 = τ 29 22 := by first | exact o150 22 (by decide) | exact congrFun (f150 29 (by decide)) 22
      try have u150_2 : σ150 29 36 = τ 29 36 := by first | exact o150 36 (by decide) | exact congrFun (f150 29 (by decide)) 36
      try have u150_3 : σ150 29 37 = τ 29 37 := by first | exact o150 37 (by decide) | exact congrFun (f150 29 (by decide)) 37
      try have u150_4 : σ150 29 38 = τ 29 38 := by first | exact o150 38 (by decide) | exact congrFun (f150 29 (by decide)) 38
      try have u150_5 : σ150 29 39 = τ 29 39 := by first | exact o150 39 (by decide) | exact congrFun (f150 29 (by decide)) 39
      try have u150_6 : σ150 29 40 = τ 29 40 := by first | exact o150 40 (by decide) | exact congrFun (f150 29 (by decide)) 40
      try have u150_7 : σ150 29 43 = τ 29 43 := by first | exact o150 43 (by decide) | exact congrFun (f150 29 (by decide)) 43
      refine pe_iload_n d_M_write_153 rfl ?_
      refine pe_iconst d_M_write_154 ?_
      refine pe_icmp_ne (t := 165) d_M_write_155 (by first | exact hB _ _ | exact hB0 _ _ | exact hBt _ _ | exact ⟨by omega, by omega⟩) (by first | exact hB _ _ | exact hB0 _ _ | exact hBt _ _ | exact ⟨by omega, by omega⟩) (fun h155 => ?_) (fun h155 => ?_)
      · skip
        have hlc : pe_wi k → ∀ r, 0 ≤ r → r < σ 29 22 → σ 29 21 * r + (σ 29 21 - 1) ≠ τ 29 21 * τ 29 36 + τ 29 37 := (fun z r h1 h2 e => by
            have q2 := hwk z
            have q3 := pe_col (W := τ 29 21) (r := r) (c := τ 29 21 - 1) (r' := τ 29 36) (c' := τ 29 37) (by omega) (by omega) (by rw [← w21] at e; exact e)
            omega)
        first
        | exact J165 (_, _, _) ⟨hB, (fun b hb => (f150 b (by simp at hb ⊢; try omega)).trans (hfr b (by simp at hb ⊢; try omega))), (fun j hj => (congrFun (f150 29 (by decide)) j).trans (hor j (by simp at hj ⊢; try omega))), x162, by (try dsimp only); omega, by (try dsimp only); omega, by (try dsimp only); omega, hlc, by (try dsimp only); omega, by (try dsimp only); omega⟩
        | exact J165 (_, _, _) ⟨hB, (fun b hb => (f150 b (by simp at hb ⊢; try omega)).trans (hfr b (by simp at hb ⊢; try omega))), (fun j hj => (congrFun (f150 29 (by decide)) j).trans (hor j (by simp at hj ⊢; try omega))), x150, by (try dsimp only); omega, by (try dsimp only); omega, by (try dsimp only); omega, hlc, by (try dsimp only); omega, by (try dsimp only); omega⟩
      · skip
        have hk2 : pe_wi k := hz121.2.mp (by omega)
        have q2 := hwk hk2
        have hwl2 : pe_wi (σ150 42 (τ 29 21 * τ 29 36 + τ 29 37 + 1) % 65536) → τ 29 21 * τ 29 36 + τ 29 37 + 1 + 1 < 192 := fun z => by
          by_cases e : τ 29 37 + 2 < τ 29 21
          · omega
          · exact absurd z (by have q := x150.2.2 (τ 29 36) (by omega) (by omega); rw [show σ150 29 21 = τ 29 21 by omega, show τ 29 21 * τ 29 36 + (τ 29 21 - 1) = τ 29 21 * τ 29 36 + τ 29 37 + 1 by omega] at q; exact q)
        refine pe_aload_n d_M_write_158 rfl ?_
        refine pe_iload_n d_M_write_159 rfl ?_
        refine pe_iconst d_M_write_160 ?_
        refine pe_iadd d_M_write_161 ?_
        refine pe_v1v d_M_write_162 c_M_269 i_M_blankHalf s_M_blankHalf rfl rfl (t_M_blankHalf hB x150 (by omega) hwl2) (fun σ162 hz162 => ?_)
        obtain ⟨hB, f162, x162⟩ := hz162
        try have u162_0 : σ162 29 21 = σ150 29 21 := by first | exact o162 21 (by decide) | exact congrFun (f162 29 (by decide)) 21
        try have u162_1 : σ162 29 22 = σ150 29 22 := by first | exact o162 22 (by decide) | exact congrFun (f162 29 (by decide)) 22
        try have u162_2 : σ162 29 36 = σ150 29 36 := by first | exact o162 36 (by decide) | exact congrFun (f162 29 (by decide)) 36
        try have u162_3 : σ162 29 37 = σ150 29 37 := by first | exact o162 37 (by decide) | exact congrFun (f162 29 (by decide)) 37
        try have u162_4 : σ162 29 38 = σ150 29 38 := by first | exact o162 38 (by decide) | exact congrFun (f162 29 (by decide)) 38
        try have u162_5 : σ162 29 39 = σ150 29 39 := by first | exact o162 39 (by decide) | exact congrFun (f162 29 (by decide)) 39
        try have u162_6 : σ162 29 40 = σ150 29 40 := by first | exact o162 40 (by decide) | exact congrFun (f162 29 (by decide)) 40
        try have u162_7 : σ162 29 43 = σ150 29 43 := by first | exact o162 43 (by decide) | exact congrFun (f162 29 (by decide)) 43
        have hlc : pe_wi k → ∀ r, 0 ≤ r → r < σ 29 22 → σ 29 21 * r + (σ 29 21 - 1) ≠ τ 29 21 * τ 29 36 + τ 29 37 := (fun z r h1 h2 e => by
            have q2 := hwk z
            have q3 := pe_col (W := τ 29 21) (r := r) (c := τ 29 21 - 1) (r' := τ 29 36) (c' := τ 29 37) (by omega) (by omega) (by rw [← w21] at e; exact e)
            omega)
        first
        | exact J165 (_, _, _) ⟨hB, (fun b hb => (f162 b (by simp at hb ⊢; try omega)).trans ((f150 b (by simp at hb ⊢; try omega)).trans (hfr b (by simp at hb ⊢; try omega)))), (fun j hj => (congrFun (f162 29 (by decide)) j).trans ((congrFun (f150 29 (by decide)) j).trans (hor j (by simp at hj ⊢; try omega)))), x162, by (try dsimp only); omega, by (try dsimp only); omega, by (try dsimp only); omega, hlc, by (try dsimp only); omega, by (try dsimp only); omega⟩
        | exact J165 (_, _, _) ⟨hB, (fun b hb => (f162 b (by simp at hb ⊢; try omega)).trans ((f150 b (by simp at hb ⊢; try omega)).trans (hfr b (by simp at hb ⊢; try omega)))), (fun j hj => (congrFun (f162 29 (by decide)) j).trans ((congrFun (f150 29 (by decide)) j).trans (hor j (by simp at hj ⊢; try omega)))), x150, by (try dsimp only); omega, by (try dsimp only); omega, by (try dsimp only); omega, hlc, by (try dsimp only); omega, by (try dsimp only); omega⟩
  have J73 : ∀ x : Int × pe_H, (pe_B x.2 ∧ (∀ b, b ∉ [29, 46] → x.2 b = σ b) ∧ (∀ j, j ∉ ([43] : List Int) → x.2 29 j = σ 29 j) ∧ pe_SW (x.2 29) (x.2 42) ∧ (x.1 = k) ∧ (σ 29 43 ≤ x.2 29 43 ∧ x.2 29 43 ≤ σ 29 43 + 3)) → pe_G m_M_write 73 [some (pe_r 29), some (pe_i k), none, none] [] x.2 (pe_qv (fun σ' => pe_B σ' ∧ (∀ b, b ∉ [29, 42, 43, 46] → σ' b = σ b) ∧ (∀ j, j ∉ ([36, 37, 38, 40, 43] : List Int) → σ' 29 j = σ 29 j) ∧ pe_SW (σ' 29) (σ' 42) ∧ (0 ≤ σ' 29 36 ∧ σ' 29 36 < σ 29 22 ∧ 0 ≤ σ' 29 37 ∧ σ' 29 37 < σ 29 21 ∧ -1 ≤ σ' 29 40 ∧ σ' 29 40 < 192) ∧ (σ 29 43 ≤ σ' 29 43 ∧ σ' 29 43 ≤ σ 29 43 + 3))) := by
    intro x hI
    obtain ⟨k9, τ⟩ := x
    dsimp only at hI ⊢
    obtain ⟨hB, hfr, hX⟩ := hI
    obtain ⟨hor, hS, hX⟩ := hX
    have w21 : τ 29 21 = σ 29 21 := hor 21 (by decide)
    have w22 : τ 29 22 = σ 29 22 := hor 22 (by decide)
    have w36 : τ 29 36 = σ 29 36 := hor 36 (by decide)
    have w37 : τ 29 37 = σ 29 37 := hor 37 (by decide)
    have w38 : τ 29 38 = σ 29 38 := hor 38 (by decide)
    have w39 : τ 29 39 = σ 29 39 := hor 39 (by decide)
    have w40 : τ 29 40 = σ 29 40 := hor 40 (by decide)
    have hBt := hB
    refine pe_aload_n d_M_write_73 rfl ?_
    refine pe_geti f_M_260 d_M_write_74 rfl rfl 38 rfl ?_
    refine pe_if_eq (t := 120) d_M_write_77 (by first | exact hB _ _ | exact hB0 _ _ | exact hBt _ _ | exact ⟨by omega, by omega⟩) (fun h77 => ?_) (fun h77 => ?_)
    · skip
      exact J120 (k, _) ⟨hB, (fun b hb => hfr b (by simp at hb ⊢; try omega)), (fun j hj => hor j (by simp at hj ⊢; try omega)), pe_SW_to hS (by first | rfl | omega | (dsimp only; omega)) (by first | rfl | omega | (dsimp only; omega)) (rfl), by first | rfl | omega | (dsimp only; omega), by first | rfl | omega | (dsimp only; omega), fun z => by (try dsimp only); have q := hw z; omega, fun z => by first | rfl | omega | (dsimp only; omega), by first | rfl | omega | (dsimp only; omega)⟩
    · skip
      refine pe_aload_n d_M_write_80 rfl ?_
      refine pe_aload_n d_M_write_81 rfl ?_
      refine pe_geti f_M_263 d_M_write_82 rfl rfl 36 rfl ?_
      refine pe_aload_n d_M_write_85 rfl ?_
      refine pe_geti f_M_81 d_M_write_86 rfl rfl 22 rfl ?_
      refine pe_iconst d_M_write_89 ?_
      refine pe_isub d_M_write_90 ?_
      refine pe_icmp_ge (t := 103) d_M_write_91 (by first | exact hB _ _ | exact hB0 _ _ | exact hBt _ _ | exact ⟨by omega, by omega⟩) (by first | exact hB _ _ | exact hB0 _ _ | exact hBt _ _ | exact ⟨by omega, by omega⟩) (fun h91 => ?_) (fun h91 => ?_)
      · skip
        refine pe_aload_n d_M_write_103 rfl ?_
        refine pe_geti f_M_263 d_M_write_104 rfl rfl 36 rfl ?_
        refine pe_putiT f_M_263 g_11_36 d_M_write_107 rfl rfl 36 rfl hB (by first | exact hB _ _ | exact hB0 _ _ | exact hBt _ _ | exact ⟨by omega, by omega⟩) (fun σ107 hB e107 o107 f107 => ?_)
        try have u107_0 : σ107 29 21 = τ 29 21 := by first | exact o107 21 (by decide) | exact congrFun (f107 29 (by decide)) 21
        try have u107_1 : σ107 29 22 = τ 29 22 := by first | exact o107 22 (by decide) | exact congrFun (f107 29 (by decide)) 22
        try have u107_2 : σ107 29 36 = τ 29 36 := by first | exact o107 36 (by decide) | exact congrFun (f107 29 (by decide)) 36
        try have u107_3 : σ107 29 37 = τ 29 37 := by first | exact o107 37 (by decide) | exact congrFun (f107 29 (by decide)) 37
        try have u107_4 : σ107 29 38 = τ 29 38 := by first | exact o107 38 (by decide) | exact congrFun (f107 29 (by decide)) 38
        try have u107_5 : σ107 29 39 = τ 29 39 := by first | exact o107 39 (by decide) | exact congrFun (f107 29 (by decide)) 39
        try have u107_6 : σ107 29 40 = τ 29 40 := by first | exact o107 40 (by decide) | exact congrFun (f107 29 (by decide)) 40
        try have u107_7 : σ107 29 43 = τ 29 43 := by first | exact o107 43 (by decide) | exact congrFun (f107 29 (by decide)) 43
        refine pe_aload_n d_M_write_110 rfl ?_
        refine pe_iconst d_M_write_111 ?_
        refine pe_putiT f_M_266 g_11_37 d_M_write_112 rfl rfl 37 rfl hB (by first | exact hB _ _ | exact hB0 _ _ | exact hBt _ _ | exact ⟨by omega, by omega⟩) (fun σ112 hB e112 o112 f112 => ?_)
        try have u112_0 : σ112 29 21 = σ107 29 21 := by first | exact o112 21 (by decide) | exact congrFun (f112 29 (by decide)) 21
        try have u112_1 : σ112 29 22 = σ107 29 22 := by first | exact o112 22 (by decide) | exact congrFun (f112 29 (by decide)) 22
        try have u112_2 : σ112 29 36 = σ107 29 36 := by first | exact o112 36 (by decide) | exact congrFun (f112 29 (by decide)) 36
        try have u112_3 : σ112 29 37 = σ107 29 37 := by first | exact o112 37 (by decide) | exact congrFun (f112 29 (by decide)) 37
        try have u112_4 : σ112 29 38 = σ107 29 38 := by first | exact o112 38 (by decide) | exact congrFun (f112 29 (by decide)) 38
        try have u112_5 : σ112 29 39 = σ107 29 39 := by first | exact o112 39 (by decide) | exact congrFun (f112 29 (by decide)) 39
        try have u112_6 : σ112 29 40 = σ107 29 40 := by first | exact o112 40 (by decide) | exact congrFun (f112 29 (by decide)) 40
        try have u112_7 : σ112 29 43 = σ107 29 43 := by first | exact o112 43 (by decide) | exact congrFun (f112 29 (by decide)) 43
        refine pe_aload_n d_M_write_115 rfl ?_
        refine pe_iconst d_M_write_116 ?_
        refine pe_putzT f_M_260 g_11_38 d_M_write_117 rfl rfl (by first | exact Or.inl rfl | exact Or.inr rfl | omega) 38 rfl hB (fun σ117 hB e117 o117 f117 => ?_)
        try have u117_0 : σ117 29 21 = σ112 29 21 := by first | exact o117 21 (by decide) | exact congrFun (f117 29 (by decide)) 21
        try have u117_1 : σ117 29 22 = σ112 29 22 := by first | exact o117 22 (by decide) | exact congrFun (f117 29 (by decide)) 22
        try have u117_2 : σ117 29 36 = σ112 29 36 := by first | exact o117 36 (by decide) | exact congrFun (f117 29 (by decide)) 36
        try have u117_3 : σ117 29 37 = σ112 29 37 := by first | exact o117 37 (by decide) | exact congrFun (f117 29 (by decide)) 37
        try have u117_4 : σ117 29 38 = σ112 29 38 := by first | exact o117 38 (by decide) | exact congrFun (f117 29 (by decide)) 38
        try have u117_5 : σ117 29 39 = σ112 29 39 := by first | exact o117 39 (by decide) | exact congrFun (f117 29 (by decide)) 39
        try have u117_6 : σ117 29 40 = σ112 29 40 := by first | exact o117 40 (by decide) | exact congrFun (f117 29 (by decide)) 40
        try have u117_7 : σ117 29 43 = σ112 29 43 := by first | exact o117 43 (by decide) | exact congrFun (f117 29 (by decide)) 43
        exact J120 (k, _) ⟨hB, (fun b hb => (f117 b (by simp at hb ⊢; try omega)).trans ((f112 b (by simp at hb ⊢; try omega)).trans ((f107 b (by simp at hb ⊢; try omega)).trans (hfr b (by simp at hb ⊢; try omega))))), (fun j hj => (o117 j (by simp at hj ⊢; try omega)).trans ((o112 j (by simp at hj ⊢; try omega)).trans ((o107 j (by simp at hj ⊢; try omega)).trans (hor j (by simp at hj ⊢; try omega))))), pe_SW_to hS (by first | rfl | omega | (dsimp only; omega)) (by first | rfl | omega | (dsimp only; omega)) ((f117 42 (by decide)).trans ((f112 42 (by decide)).trans ((f107 42 (by decide)).trans (rfl)))), by first | rfl | omega | (dsimp only; omega), by first | rfl | omega | (dsimp only; omega), fun z => by (try dsimp only); have q := hw z; omega, fun z => by first | rfl | omega | (dsimp only; omega), by first | rfl | omega | (dsimp only; omega)⟩
      · skip
        refine pe_aload_n d_M_write_94 rfl ?_
        refine pe_geti f_M_263 d_M_write_95 rfl rfl 36 rfl ?_
        refine pe_iconst d_M_write_98 ?_
        refine pe_iadd d_M_write_99 ?_
        refine pe_goto (t := 107) d_M_write_100 ?_
        refine pe_putiT f_M_263 g_11_36 d_M_write_107 rfl rfl 36 rfl hB (by first | exact hB _ _ | exact hB0 _ _ | exact hBt _ _ | exact ⟨by omega, by omega⟩) (fun σ107 hB e107 o107 f107 => ?_)
        try have u107_0 : σ107 29 21 = τ 29 21 := by first | exact o107 21 (by decide) | exact congrFun (f107 29 (by decide)) 21
        try have u107_1 : σ107 29 22 = τ 29 22 := by first | exact o107 22 (by decide) | exact congrFun (f107 29 (by decide)) 22
        try have u107_2 : σ107 29 36 = τ 29 36 := by first | exact o107 36 (by decide) | exact congrFun (f107 29 (by decide)) 36
        try have u107_3 : σ107 29 37 = τ 29 37 := by first | exact o107 37 (by decide) | exact congrFun (f107 29 (by decide)) 37
        try have u107_4 : σ107 29 38 = τ 29 38 := by first | exact o107 38 (by decide) | exact congrFun (f107 29 (by decide)) 38
        try have u107_5 : σ107 29 39 = τ 29 39 := by first | exact o107 39 (by decide) | exact congrFun (f107 29 (by decide)) 39
        try have u107_6 : σ107 29 40 = τ 29 40 := by first | exact o107 40 (by decide) | exact congrFun (f107 29 (by decide)) 40
        try have u107_7 : σ107 29 43 = τ 29 43 := by first | exact o107 43 (by decide) | exact congrFun (f107 29 (by decide)) 43
        refine pe_aload_n d_M_write_110 rfl ?_
        refine pe_iconst d_M_write_111 ?_
        refine pe_putiT f_M_266 g_11_37 d_M_write_112 rfl rfl 37 rfl hB (by first | exact hB _ _ | exact hB0 _ _ | exact hBt _ _ | exact ⟨by omega, by omega⟩) (fun σ112 hB e112 o112 f112 => ?_)
        try have u112_0 : σ112 29 21 = σ107 29 21 := by first | exact o112 21 (by decide) | exact congrFun (f112 29 (by decide)) 21
        try have u112_1 : σ112 29 22 = σ107 29 22 := by first | exact o112 22 (by decide) | exact congrFun (f112 29 (by decide)) 22
        try have u112_2 : σ112 29 36 = σ107 29 36 := by first | exact o112 36 (by decide) | exact congrFun (f112 29 (by decide)) 36
        try have u112_3 : σ112 29 37 = σ107 29 37 := by first | exact o112 37 (by decide) | exact congrFun (f112 29 (by decide)) 37
        try have u112_4 : σ112 29 38 = σ107 29 38 := by first | exact o112 38 (by decide) | exact congrFun (f112 29 (by decide)) 38
        try have u112_5 : σ112 29 39 = σ107 29 39 := by first | exact o112 39 (by decide) | exact congrFun (f112 29 (by decide)) 39
        try have u112_6 : σ112 29 40 = σ107 29 40 := by first | exact o112 40 (by decide) | exact congrFun (f112 29 (by decide)) 40
        try have u112_7 : σ112 29 43 = σ107 29 43 := by first | exact o112 43 (by decide) | exact congrFun (f112 29 (by decide)) 43
        refine pe_aload_n d_M_write_115 rfl ?_
        refine pe_iconst d_M_write_116 ?_
        refine pe_putzT f_M_260 g_11_38 d_M_write_117 rfl rfl (by first | exact Or.inl rfl | exact Or.inr rfl | omega) 38 rfl hB (fun σ117 hB e117 o117 f117 => ?_)
        try have u117_0 : σ117 29 21 = σ112 29 21 := by first | exact o117 21 (by decide) | exact congrFun (f117 29 (by decide)) 21
        try have u117_1 : σ117 29 22 = σ112 29 22 := by first | exact o117 22 (by decide) | exact congrFun (f117 29 (by decide)) 22
        try have u117_2 : σ117 29 36 = σ112 29 36 := by first | exact o117 36 (by decide) | exact congrFun (f117 29 (by decide)) 36
        try have u117_3 : σ117 29 37 = σ112 29 37 := by first | exact o117 37 (by decide) | exact congrFun (f117 29 (by decide)) 37
        try have u117_4 : σ117 29 38 = σ112 29 38 := by first | exact o117 38 (by decide) | exact congrFun (f117 29 (by decide)) 38
        try have u117_5 : σ117 29 39 = σ112 29 39 := by first | exact o117 39 (by decide) | exact congrFun (f117 29 (by decide)) 39
        try have u117_6 : σ117 29 40 = σ112 29 40 := by first | exact o117 40 (by decide) | exact congrFun (f117 29 (by decide)) 40
        try have u117_7 : σ117 29 43 = σ112 29 43 := by first | exact o117 43 (by decide) | exact congrFun (f117 29 (by decide)) 43
        exact J120 (k, _) ⟨hB, (fun b hb => (f117 b (by simp at hb ⊢; try omega)).trans ((f112 b (by simp at hb ⊢; try omega)).trans ((f107 b (by simp at hb ⊢; try omega)).trans (hfr b (by simp at hb ⊢; try omega))))), (fun j hj => (o117 j (by simp at hj ⊢; try omega)).trans ((o112 j (by simp at hj ⊢; try omega)).trans ((o107 j (by simp at hj ⊢; try omega)).trans (hor j (by simp at hj ⊢; try omega))))), pe_SW_to hS (by first | rfl | omega | (dsimp only; omega)) (by first | rfl | omega | (dsimp only; omega)) ((f117 42 (by decide)).trans ((f112 42 (by decide)).trans ((f107 42 (by decide)).trans (rfl)))), by first | rfl | omega | (dsimp only; omega), by first | rfl | omega | (dsimp only; omega), fun z => by (try dsimp only); have q := hw z; omega, fun z => by first | rfl | omega | (dsimp only; omega), by first | rfl | omega | (dsimp only; omega)⟩
  refine pe_aload_n d_M_write_0 rfl ?_
  refine pe_iload_n d_M_write_1 rfl ?_
  refine pe_v1v d_M_write_2 c_M_257 i_M_putCode s_M_putCode rfl rfl (t_M_putCode hB (by omega) (by first | exact hB _ _ | exact hB0 _ _ | exact hBt _ _ | exact ⟨by omega, by omega⟩)) (fun σ2 hz2 => ?_)
  obtain ⟨hB, f2, o2, x2⟩ := hz2
  try have u2_0 : σ2 29 21 = σ 29 21 := by first | exact o2 21 (by decide) | exact congrFun (f2 29 (by decide)) 21
  try have u2_1 : σ2 29 22 = σ 29 22 := by first | exact o2 22 (by decide) | exact congrFun (f2 29 (by decide)) 22
  try have u2_2 : σ2 29 36 = σ 29 36 := by first | exact o2 36 (by decide) | exact congrFun (f2 29 (by decide)) 36
  try have u2_3 : σ2 29 37 = σ 29 37 := by first | exact o2 37 (by decide) | exact congrFun (f2 29 (by decide)) 37
  try have u2_4 : σ2 29 38 = σ 29 38 := by first | exact o2 38 (by decide) | exact congrFun (f2 29 (by decide)) 38
  try have u2_5 : σ2 29 39 = σ 29 39 := by first | exact o2 39 (by decide) | exact congrFun (f2 29 (by decide)) 39
  try have u2_6 : σ2 29 40 = σ 29 40 := by first | exact o2 40 (by decide) | exact congrFun (f2 29 (by decide)) 40
  try have u2_7 : σ2 29 43 = σ 29 43 := by first | exact o2 43 (by decide) | exact congrFun (f2 29 (by decide)) 43
  refine pe_iload_n d_M_write_5 rfl ?_
  refine pe_s1p d_M_write_6 c_M_90 z_M_isMark (t_M_isMark (by first | exact hB _ _ | exact hB0 _ _ | exact hBt _ _ | exact ⟨by omega, by omega⟩)) (fun z6 hz6 => ?_)
  refine pe_if_eq (t := 73) d_M_write_9 (by first | exact hB _ _ | exact hB0 _ _ | exact hBt _ _ | exact ⟨by omega, by omega⟩) (fun h9 => ?_) (fun h9 => ?_)
  · skip
    exact J73 (k, _) ⟨hB, (fun b hb => (f2 b (by simp at hb ⊢; try omega)).trans (rfl)), (fun j hj => (o2 j (by simp at hj ⊢; try omega)).trans (rfl)), pe_SW_to hS (by first | rfl | omega | (dsimp only; omega)) (by first | rfl | omega | (dsimp only; omega)) ((f2 42 (by decide)).trans (rfl)), by first | rfl | omega | (dsimp only; omega)⟩
  · skip
    refine pe_aload_n d_M_write_12 rfl ?_
    refine pe_geti f_M_68 d_M_write_13 rfl rfl 40 rfl ?_
    refine pe_if_lt (t := 73) d_M_write_16 (by first | exact hB _ _ | exact hB0 _ _ | exact hBt _ _ | exact ⟨by omega, by omega⟩) (fun h16 => ?_) (fun h16 => ?_)
    · skip
      exact J73 (k, _) ⟨hB, (fun b hb => (f2 b (by simp at hb ⊢; try omega)).trans (rfl)), (fun j hj => (o2 j (by simp at hj ⊢; try omega)).trans (rfl)), pe_SW_to hS (by first | rfl | omega | (dsimp only; omega)) (by first | rfl | omega | (dsimp only; omega)) ((f2 42 (by decide)).trans (rfl)), by first | rfl | omega | (dsimp only; omega)⟩
    · skip
      refine pe_aload_n d_M_write_19 rfl ?_
      refine pe_getr f_M_56 d_M_write_20 rfl rfl ?_
      refine pe_aload_n d_M_write_23 rfl ?_
      refine pe_geti f_M_68 d_M_write_24 rfl rfl 40 rfl ?_
      refine pe_iald d_M_write_27 rfl (by omega) (by omega) ?_
      have hn := hS.1 (σ2 29 40)
      rw [← f2 42 (by decide)] at hn
      refine pe_ldc q_M_221 d_M_write_28 (z := 8388608) rfl ?_
      refine pe_icmp_ge (t := 73) d_M_write_30 (by first | exact hB _ _ | exact hB0 _ _ | exact hBt _ _ | exact ⟨by omega, by omega⟩) (by first | exact hB _ _ | exact hB0 _ _ | exact hBt _ _ | exact ⟨by omega, by omega⟩) (fun h30 => ?_) (fun h30 => ?_)
      · skip
        exact J73 (k, _) ⟨hB, (fun b hb => (f2 b (by simp at hb ⊢; try omega)).trans (rfl)), (fun j hj => (o2 j (by simp at hj ⊢; try omega)).trans (rfl)), pe_SW_to hS (by first | rfl | omega | (dsimp only; omega)) (by first | rfl | omega | (dsimp only; omega)) ((f2 42 (by decide)).trans (rfl)), by first | rfl | omega | (dsimp only; omega)⟩
      · skip
        refine pe_aload_n d_M_write_33 rfl ?_
        refine pe_getr f_M_56 d_M_write_34 rfl rfl ?_
        refine pe_aload_n d_M_write_37 rfl ?_
        refine pe_geti f_M_68 d_M_write_38 rfl rfl 40 rfl ?_
        refine pe_dup2 d_M_write_41 ?_
        refine pe_iald d_M_write_42 rfl (by omega) (by omega) ?_
        refine pe_aload_n d_M_write_43 rfl ?_
        refine pe_getr f_M_56 d_M_write_44 rfl rfl ?_
        refine pe_aload_n d_M_write_47 rfl ?_
        refine pe_geti f_M_68 d_M_write_48 rfl rfl 40 rfl ?_
        refine pe_iald d_M_write_51 rfl (by omega) (by omega) ?_
        refine pe_ldc q_M_220 d_M_write_52 (z := 65536) rfl ?_
        refine pe_icmp_ge (t := 62) d_M_write_54 (by first | exact hB _ _ | exact hB0 _ _ | exact hBt _ _ | exact ⟨by omega, by omega⟩) (by first | exact hB _ _ | exact hB0 _ _ | exact hBt _ _ | exact ⟨by omega, by omega⟩) (fun h54 => ?_) (fun h54 => ?_)
        · skip
          refine pe_ldc q_M_221 d_M_write_62 (z := 8388608) rfl ?_
          refine pe_iload_n d_M_write_64 rfl ?_
          refine pe_sipush d_M_write_65 ?_
          refine pe_isub d_M_write_68 ?_
          refine pe_imul d_M_write_69 ?_
          refine pe_iadd d_M_write_70 ?_
          refine pe_iastT d_M_write_71 rfl (by omega) (by omega) hB (by first | exact hB _ _ | exact hB0 _ _ | exact hBt _ _ | exact ⟨by omega, by omega⟩) (fun σ71 hB e71 o71 f71 => ?_)
          try have u71_0 : σ71 29 21 = σ2 29 21 := by first | exact o71 21 (by decide) | exact congrFun (f71 29 (by decide)) 21
          try have u71_1 : σ71 29 22 = σ2 29 22 := by first | exact o71 22 (by decide) | exact congrFun (f71 29 (by decide)) 22
          try have u71_2 : σ71 29 36 = σ2 29 36 := by first | exact o71 36 (by decide) | exact congrFun (f71 29 (by decide)) 36
          try have u71_3 : σ71 29 37 = σ2 29 37 := by first | exact o71 37 (by decide) | exact congrFun (f71 29 (by decide)) 37
          try have u71_4 : σ71 29 38 = σ2 29 38 := by first | exact o71 38 (by decide) | exact congrFun (f71 29 (by decide)) 38
          try have u71_5 : σ71 29 39 = σ2 29 39 := by first | exact o71 39 (by decide) | exact congrFun (f71 29 (by decide)) 39
          try have u71_6 : σ71 29 40 = σ2 29 40 := by first | exact o71 40 (by decide) | exact congrFun (f71 29 (by decide)) 40
          try have u71_7 : σ71 29 43 = σ2 29 43 := by first | exact o71 43 (by decide) | exact congrFun (f71 29 (by decide)) 43
          refine pe_rv d_M_write_72 ?_
          first
          | (have hj : pe_SW (σ2 29) (σ71 42) := pe_SW_up (s := σ2 42) (pe_SW_to hS (by omega) (by omega) (f2 42 (by decide))) e71 o71 (by omega) (fun e => by omega) (fun z r h1 h2 e => by
                have hS2 : pe_SW (σ2 29) (σ2 42) := pe_SW_to hS (by omega) (by omega) (f2 42 (by decide))
                refine hS2.2.2 r h1 h2 ?_
                rw [e]
                rw [show (σ2 42 (σ2 29 40) + 65536 * (k - 767)) % 65536 = σ2 42 (σ2 29 40) % 65536 by omega] at z
                exact z)
             exact ⟨hB, (fun b hb => (f71 b (by simp at hb ⊢; try omega)).trans ((f2 b (by simp at hb ⊢; try omega)).trans (rfl))), (fun j hj => (congrFun (f71 29 (by decide)) j).trans ((o2 j (by simp at hj ⊢; try omega)).trans (rfl))), pe_SW_to hj (congrFun (f71 29 (by decide)) 21) (congrFun (f71 29 (by decide)) 22) rfl, by omega, by omega⟩)
          | (have hj : pe_SW (σ2 29) (σ71 42) := pe_SW_up (s := σ2 42) (pe_SW_to hS (by omega) (by omega) (f2 42 (by decide))) e71 o71 (by omega) (fun e => by omega) (fun z r h1 h2 e => by
                have hS2 : pe_SW (σ2 29) (σ2 42) := pe_SW_to hS (by omega) (by omega) (f2 42 (by decide))
                refine hS2.2.2 r h1 h2 ?_
                rw [e]
                rw [show (σ2 42 (σ2 29 40) + 8388608 * (k - 767)) % 65536 = σ2 42 (σ2 29 40) % 65536 by omega] at z
                exact z)
             exact ⟨hB, (fun b hb => (f71 b (by simp at hb ⊢; try omega)).trans ((f2 b (by simp at hb ⊢; try omega)).trans (rfl))), (fun j hj => (congrFun (f71 29 (by decide)) j).trans ((o2 j (by simp at hj ⊢; try omega)).trans (rfl))), pe_SW_to hj (congrFun (f71 29 (by decide)) 21) (congrFun (f71 29 (by decide)) 22) rfl, by omega, by omega⟩)
        · skip
          refine pe_ldc q_M_220 d_M_write_57 (z := 65536) rfl ?_
          refine pe_goto (t := 64) d_M_write_59 ?_
          refine pe_iload_n d_M_write_64 rfl ?_
          refine pe_sipush d_M_write_65 ?_
          refine pe_isub d_M_write_68 ?_
          refine pe_imul d_M_write_69 ?_
          refine pe_iadd d_M_write_70 ?_
          refine pe_iastT d_M_write_71 rfl (by omega) (by omega) hB (by first | exact hB _ _ | exact hB0 _ _ | exact hBt _ _ | exact ⟨by omega, by omega⟩) (fun σ71 hB e71 o71 f71 => ?_)
          try have u71_0 : σ71 29 21 = σ2 29 21 := by first | exact o71 21 (by decide) | exact congrFun (f71 29 (by decide)) 21
          try have u71_1 : σ71 29 22 = σ2 29 22 := by first | exact o71 22 (by decide) | exact congrFun (f71 29 (by decide)) 22
          try have u71_2 : σ71 29 36 = σ2 29 36 := by first | exact o71 36 (by decide) | exact congrFun (f71 29 (by decide)) 36
          try have u71_3 : σ71 29 37 = σ2 29 37 := by first | exact o71 37 (by decide) | exact congrFun (f71 29 (by decide)) 37
          try have u71_4 : σ71 29 38 = σ2 29 38 := by first | exact o71 38 (by decide) | exact congrFun (f71 29 (by decide)) 38
          try have u71_5 : σ71 29 39 = σ2 29 39 := by first | exact o71 39 (by decide) | exact congrFun (f71 29 (by decide)) 39
          try have u71_6 : σ71 29 40 = σ2 29 40 := by first | exact o71 40 (by decide) | exact congrFun (f71 29 (by decide)) 40
          try have u71_7 : σ71 29 43 = σ2 29 43 := by first | exact o71 43 (by decide) | exact congrFun (f71 29 (by decide)) 43
          refine pe_rv d_M_write_72 ?_
          first
          | (have hj : pe_SW (σ2 29) (σ71 42) := pe_SW_up (s := σ2 42) (pe_SW_to hS (by omega) (by omega) (f2 42 (by decide))) e71 o71 (by omega) (fun e => by omega) (fun z r h1 h2 e => by
                have hS2 : pe_SW (σ2 29) (σ2 42) := pe_SW_to hS (by omega) (by omega) (f2 42 (by decide))
                refine hS2.2.2 r h1 h2 ?_
                rw [e]
                rw [show (σ2 42 (σ2 29 40) + 65536 * (k - 767)) % 65536 = σ2 42 (σ2 29 40) % 65536 by omega] at z
                exact z)
             exact ⟨hB, (fun b hb => (f71 b (by simp at hb ⊢; try omega)).trans ((f2 b (by simp at hb ⊢; try omega)).trans (rfl))), (fun j hj => (congrFun (f71 29 (by decide)) j).trans ((o2 j (by simp at hj ⊢; try omega)).trans (rfl))), pe_SW_to hj (congrFun (f71 29 (by decide)) 21) (congrFun (f71 29 (by decide)) 22) rfl, by omega, by omega⟩)
          | (have hj : pe_SW (σ2 29) (σ71 42) := pe_SW_up (s := σ2 42) (pe_SW_to hS (by omega) (by omega) (f2 42 (by decide))) e71 o71 (by omega) (fun e => by omega) (fun z r h1 h2 e => by
                have hS2 : pe_SW (σ2 29) (σ2 42) := pe_SW_to hS (by omega) (by omega) (f2 42 (by decide))
                refine hS2.2.2 r h1 h2 ?_
                rw [e]
                rw [show (σ2 42 (σ2 29 40) + 8388608 * (k - 767)) % 65536 = σ2 42 (σ2 29 40) % 65536 by omega] at z
                exact z)
             exact ⟨hB, (fun b hb => (f71 b (by simp at hb ⊢; try omega)).trans ((f2 b (by simp at hb ⊢; try omega)).trans (rfl))), (fun j hj => (congrFun (f71 29 (by decide)) j).trans ((o2 j (by simp at hj ⊢; try omega)).trans (rfl))), pe_SW_to hj (congrFun (f71 29 (by decide)) 21) (congrFun (f71 29 (by decide)) 22) rfl, by omega, by omega⟩)
