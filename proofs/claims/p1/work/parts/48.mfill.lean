set_option maxHeartbeats 2000000 in
theorem t_M_fillText {σ : pe_H} (hB : pe_B σ) (hM : pe_MEs σ) (hW : 4 ≤ σ 29 21 ∧ σ 29 21 ≤ 24 ∧ 2 ≤ σ 29 22 ∧ σ 29 22 ≤ 8) (hD : pe_DW (σ 29) (σ 40)) (hLO : pe_LO (σ 29) (σ 30) (σ 37) (σ 38) (σ 39)) (hN : ∀ j, 0 ≤ j → j < σ 29 1 → σ 30 j ≠ 0) (ht : -10 ≤ σ 29 27 ∧ σ 29 27 ≤ 600) : pe_M m_M_fillText [pe_r 29] σ (pe_qv (fun σ' => pe_B σ' ∧ (∀ b, b ∉ [40, 41] → σ' b = σ b) ∧ pe_DW (σ' 29) (σ' 40))) := by
  refine pe_in0 (lv := [some (pe_r 29), none, none, none, none, none, none, none, none]) ?_
  have hB0 := hB
  have hM0 := hM
  obtain ⟨hl, A30, A31, A36, ⟨hcu, hbg⟩, hma, hcl, hcg, hch, N30, N31, N36⟩ := hM
  have J48 : ∀ x : Int × Int × Int × pe_H, (pe_B x.2.2.2 ∧ (∀ b, b ∉ [40, 41] → x.2.2.2 b = σ b) ∧ pe_DW (x.2.2.2 29) (x.2.2.2 40) ∧ (0 ≤ x.2.2.1 ∧ x.2.2.1 ≤ σ 29 1 + 1 ∧ -1 ≤ x.1 ∧ x.1 ≤ 200 ∧ -1 ≤ x.2.1 ∧ x.2.1 ≤ 200)) → pe_G m_M_fillText 48 [some (pe_r 29), some (pe_i x.1), some (pe_i x.2.1), some (pe_i x.2.2.1), none, none, none, none, none] [] x.2.2.2 (pe_qv (fun σ' => pe_B σ' ∧ (∀ b, b ∉ [40, 41] → σ' b = σ b) ∧ pe_DW (σ' 29) (σ' 40))) := by
    refine pe_loop (fun x : Int × Int × Int × pe_H => (300 - x.2.2.1).toNat) _ _ ?_
    intro x hI ih
    obtain ⟨f, t, p, τ⟩ := x
    dsimp only at hI ⊢
    obtain ⟨hB, hfr, hX⟩ := hI
    have v_29_1 : τ 29 1 = σ 29 1 := congrFun (hfr 29 (by decide)) 1
    have v_29_2 : τ 29 2 = σ 29 2 := congrFun (hfr 29 (by decide)) 2
    have v_29_3 : τ 29 3 = σ 29 3 := congrFun (hfr 29 (by decide)) 3
    have v_29_7 : τ 29 7 = σ 29 7 := congrFun (hfr 29 (by decide)) 7
    have v_29_21 : τ 29 21 = σ 29 21 := congrFun (hfr 29 (by decide)) 21
    have v_29_22 : τ 29 22 = σ 29 22 := congrFun (hfr 29 (by decide)) 22
    have v_29_27 : τ 29 27 = σ 29 27 := congrFun (hfr 29 (by decide)) 27
    obtain ⟨hD, hX⟩ := hX
    have hF0 := hfr
    have fb1 := hB0 29 2
    have fb2 := hB0 29 3
    have hBt := hB
    have J240 : ∀ x : Int × pe_H, (pe_B x.2 ∧ (∀ b, b ∉ [40, 41] → x.2 b = σ b) ∧ (x.1 = 0) ∧ (p ≤ σ 29 1) ∧ pe_DW (x.2 29) (x.2 40)) → pe_G m_M_fillText 240 [some (pe_r 29), some (pe_i f), some (pe_i t), some (pe_i p), none, none, none, none, none] [] x.2 (pe_qv (fun σ' => pe_B σ' ∧ (∀ b, b ∉ [40, 41] → σ' b = σ b) ∧ pe_DW (σ' 29) (σ' 40))) := by
      intro x hI
      obtain ⟨q9, τ2⟩ := x
      dsimp only at hI ⊢
      obtain ⟨hB, hfr, hX⟩ := hI
      have v_29_1 : τ2 29 1 = σ 29 1 := congrFun (hfr 29 (by decide)) 1
      have v_29_2 : τ2 29 2 = σ 29 2 := congrFun (hfr 29 (by decide)) 2
      have v_29_3 : τ2 29 3 = σ 29 3 := congrFun (hfr 29 (by decide)) 3
      have v_29_7 : τ2 29 7 = σ 29 7 := congrFun (hfr 29 (by decide)) 7
      have v_29_21 : τ2 29 21 = σ 29 21 := congrFun (hfr 29 (by decide)) 21
      have v_29_22 : τ2 29 22 = σ 29 22 := congrFun (hfr 29 (by decide)) 22
      have v_29_27 : τ2 29 27 = σ 29 27 := congrFun (hfr 29 (by decide)) 27
      obtain ⟨hq9, hpl, hD2⟩ := hX
      have hBt := hB
      refine pe_iinc d_M_fillText_240 rfl ?_
      refine pe_goto (t := 48) d_M_fillText_243 ?_
      exact ih (_, _, _, _) ⟨hB, (fun b hb => hfr b (by simp at hb ⊢; try omega)), hD2, by (try dsimp only); omega⟩ (by (try dsimp only); omega)
    have J177 : ∀ x : Int × Int × Int × Int × Int × pe_H, (pe_B x.2.2.2.2.2 ∧ (∀ b, b ∉ [40, 41] → x.2.2.2.2.2 b = σ b) ∧ pe_DW (x.2.2.2.2.2 29) (x.2.2.2.2.2 40) ∧ (0 ≤ σ 38 p ∧ 1 ≤ σ 39 p ∧ σ 38 p + σ 39 p ≤ σ 29 21 ∧ (p < σ 29 1 → pe_wi (σ 30 p) → σ 39 p = 2)) ∧ (0 ≤ p ∧ p ≤ σ 29 1) ∧ (0 ≤ x.1 ∧ x.1 < σ 29 22) ∧ (x.2.1 = σ 29 21 * x.1 + σ 38 p) ∧ (x.2.2.1 = 0 ∨ x.2.2.1 = 1) ∧ (x.2.2.1 = 0 → p < σ 29 1) ∧ (x.2.2.2.1 = 0 ∨ x.2.2.2.1 = 2) ∧ (0 ≤ x.2.2.2.2.1 ∧ x.2.2.2.2.1 ≤ σ 39 p)) → pe_G m_M_fillText 177 [some (pe_r 29), some (pe_i f), some (pe_i t), some (pe_i p), some (pe_i x.1), some (pe_i x.2.1), some (pe_i x.2.2.1), some (pe_i x.2.2.2.1), some (pe_i x.2.2.2.2.1)] [] x.2.2.2.2.2 (pe_qv (fun σ' => pe_B σ' ∧ (∀ b, b ∉ [40, 41] → σ' b = σ b) ∧ pe_DW (σ' 29) (σ' 40))) := by
      refine pe_loop (fun x : Int × Int × Int × Int × Int × pe_H => (300 - x.2.2.2.2.1).toNat) _ _ ?_
      intro x hI ih2
      obtain ⟨r, a, b, l, k, τ2⟩ := x
      dsimp only at hI ⊢
      obtain ⟨hB, hfr, hX⟩ := hI
      have v_29_1 : τ2 29 1 = σ 29 1 := congrFun (hfr 29 (by decide)) 1
      have v_29_2 : τ2 29 2 = σ 29 2 := congrFun (hfr 29 (by decide)) 2
      have v_29_3 : τ2 29 3 = σ 29 3 := congrFun (hfr 29 (by decide)) 3
      have v_29_7 : τ2 29 7 = σ 29 7 := congrFun (hfr 29 (by decide)) 7
      have v_29_21 : τ2 29 21 = σ 29 21 := congrFun (hfr 29 (by decide)) 21
      have v_29_22 : τ2 29 22 = σ 29 22 := congrFun (hfr 29 (by decide)) 22
      have v_29_27 : τ2 29 27 = σ 29 27 := congrFun (hfr 29 (by decide)) 27
      obtain ⟨hD2, hlo, hpl, hr9, ha9, hb9, hb0, hl9, hk9⟩ := hX
      have w39 : τ2 39 p = σ 39 p := congrFun (hfr 39 (by decide)) p
      have ix := pe_ix (W := σ 29 21) (H := σ 29 22) (r := r) (c := 0) (by omega) (by omega) (by omega) (by omega)
      have hBt := hB
      refine pe_iload d_M_fillText_177 rfl ?_
      refine pe_aload_n d_M_fillText_179 rfl ?_
      refine pe_getr f_M_47 d_M_fillText_180 rfl rfl ?_
      refine pe_iload_n d_M_fillText_183 rfl ?_
      refine pe_iald d_M_fillText_184 rfl (by omega) (by omega) ?_
      refine pe_icmp_ge (t := 240) d_M_fillText_185 (by first | exact hB _ _ | exact hB0 _ _ | exact hBt _ _ | exact ⟨by omega, by omega⟩) (by first | exact hB _ _ | exact hB0 _ _ | exact hBt _ _ | exact ⟨by omega, by omega⟩) (fun h185 => ?_) (fun h185 => ?_)
      · skip
        first
        | exact pe_drop 4 (pe_drop 5 (pe_drop 6 (pe_drop 7 (pe_drop 8 (J240 (0, _) ⟨hB, (fun b hb => hfr b (by simp at hb ⊢; try omega)), rfl, by (try dsimp only); omega, hD2⟩)))))
        | exact pe_drop 4 (pe_drop 5 (pe_drop 6 (pe_drop 7 (pe_drop 8 (J240 (0, _) ⟨hB, (fun b hb => hfr b (by simp at hb ⊢; try omega)), rfl, by (try dsimp only); omega, hD⟩)))))
      · skip
        refine pe_aload_n d_M_fillText_188 rfl ?_
        refine pe_getr f_M_50 d_M_fillText_189 rfl rfl ?_
        refine pe_iload d_M_fillText_192 rfl ?_
        refine pe_iload d_M_fillText_194 rfl ?_
        refine pe_iadd d_M_fillText_196 ?_
        refine pe_iload d_M_fillText_197 rfl ?_
        refine pe_if_eq (t := 207) d_M_fillText_199 (by first | exact hB _ _ | exact hB0 _ _ | exact hBt _ _ | exact ⟨by omega, by omega⟩) (fun h199 => ?_) (fun h199 => ?_)
        · skip
          refine pe_iload d_M_fillText_207 rfl ?_
          refine pe_if_ne (t := 220) d_M_fillText_209 (by first | exact hB _ _ | exact hB0 _ _ | exact hBt _ _ | exact ⟨by omega, by omega⟩) (fun h209 => ?_) (fun h209 => ?_)
          · skip
            refine pe_iconst d_M_fillText_220 ?_
            refine pe_iastT d_M_fillText_221 rfl (by omega) (by omega) hB (by first | exact hB _ _ | exact hB0 _ _ | exact hBt _ _ | exact ⟨by omega, by omega⟩) (fun σ221 hB e221 o221 f221 => ?_)
            try have u221_0 : σ221 29 1 = τ2 29 1 := by first | exact o221 1 (by decide) | exact congrFun (f221 29 (by decide)) 1
            try have u221_1 : σ221 29 2 = τ2 29 2 := by first | exact o221 2 (by decide) | exact congrFun (f221 29 (by decide)) 2
            try have u221_2 : σ221 29 3 = τ2 29 3 := by first | exact o221 3 (by decide) | exact congrFun (f221 29 (by decide)) 3
            try have u221_3 : σ221 29 7 = τ2 29 7 := by first | exact o221 7 (by decide) | exact congrFun (f221 29 (by decide)) 7
            try have u221_4 : σ221 29 21 = τ2 29 21 := by first | exact o221 21 (by decide) | exact congrFun (f221 29 (by decide)) 21
            try have u221_5 : σ221 29 22 = τ2 29 22 := by first | exact o221 22 (by decide) | exact congrFun (f221 29 (by decide)) 22
            try have u221_6 : σ221 29 27 = τ2 29 27 := by first | exact o221 27 (by decide) | exact congrFun (f221 29 (by decide)) 27
            have hv : 0 ≤ σ221 40 (a + k) ∧ (σ 38 p + k = 0 → σ221 40 (a + k) % 65536 ≠ 0) ∧ (pe_wi (σ221 40 (a + k) % 65536) → σ 38 p + k + 1 < σ 29 21) := by
              rw [e221]
              first
              | exact ⟨by omega, fun _ => by omega, fun z => absurd z (pe_nw (by omega))⟩
              | exact ⟨by omega, fun e => by omega, fun z => absurd z (pe_nw (by omega))⟩
              | (have hzz : z214 % 65536 = σ 30 p := by rw [hz214.2, hfr 30 (by decide)]
                 have hn0 := hN p (by omega) (by omega)
                 rw [hzz]
                 exact ⟨by omega, fun e => hn0, fun z => by have q := hlo.2.2.2 (by omega) z; omega⟩)
            have hD8 : pe_DW (τ2 29) (σ221 40) := pe_DW_up (r := r) (c := σ 38 p + k) hD2 (by omega) (v := σ221 40 (a + k)) (by rw [show τ2 29 21 * r + (σ 38 p + k) = a + k by rw [v_29_21, ha9]; omega]) (fun j hj => o221 j (by rw [v_29_21] at hj; omega)) hv.1 hv.2.1 (fun z => by have q := hv.2.2 z; omega)
            refine pe_aload_n d_M_fillText_222 rfl ?_
            refine pe_getr f_M_53 d_M_fillText_223 rfl rfl ?_
            refine pe_iload d_M_fillText_226 rfl ?_
            refine pe_iload d_M_fillText_228 rfl ?_
            refine pe_iadd d_M_fillText_230 ?_
            refine pe_iload d_M_fillText_231 rfl ?_
            refine pe_iastT d_M_fillText_233 rfl (by omega) (by omega) hB (by first | exact hB _ _ | exact hB0 _ _ | exact hBt _ _ | exact ⟨by omega, by omega⟩) (fun σ233 hB e233 o233 f233 => ?_)
            try have u233_0 : σ233 29 1 = σ221 29 1 := by first | exact o233 1 (by decide) | exact congrFun (f233 29 (by decide)) 1
            try have u233_1 : σ233 29 2 = σ221 29 2 := by first | exact o233 2 (by decide) | exact congrFun (f233 29 (by decide)) 2
            try have u233_2 : σ233 29 3 = σ221 29 3 := by first | exact o233 3 (by decide) | exact congrFun (f233 29 (by decide)) 3
            try have u233_3 : σ233 29 7 = σ221 29 7 := by first | exact o233 7 (by decide) | exact congrFun (f233 29 (by decide)) 7
            try have u233_4 : σ233 29 21 = σ221 29 21 := by first | exact o233 21 (by decide) | exact congrFun (f233 29 (by decide)) 21
            try have u233_5 : σ233 29 22 = σ221 29 22 := by first | exact o233 22 (by decide) | exact congrFun (f233 29 (by decide)) 22
            try have u233_6 : σ233 29 27 = σ221 29 27 := by first | exact o233 27 (by decide) | exact congrFun (f233 29 (by decide)) 27
            have hD9 : pe_DW (σ233 29) (σ233 40) := pe_DW_to hD8 (by omega) (by omega) (f233 40 (by decide))
            refine pe_iinc d_M_fillText_234 rfl ?_
            refine pe_goto (t := 177) d_M_fillText_237 ?_
            exact ih2 (_, _, _, _, _, _) ⟨hB, (fun b hb => (f233 b (by simp at hb ⊢; try omega)).trans ((f221 b (by simp at hb ⊢; try omega)).trans (hfr b (by simp at hb ⊢; try omega)))), hD9, hlo, hpl, hr9, ha9, hb9, hb0, hl9, by (try dsimp only); omega⟩ (by (try dsimp only); omega)
          · skip
            refine pe_aload_n d_M_fillText_212 rfl ?_
            refine pe_iload_n d_M_fillText_213 rfl ?_
            refine pe_v1p d_M_fillText_214 c_M_225 i_M_clusterAt s_M_clusterAt rfl rfl (t_M_clusterAt hB (pe_ME_to hM0 (by omega) (by omega) (by omega) (congrFun (hfr 29 (by decide)) 5) (by omega) (hfr 30 (by decide)) (hfr 31 (by decide)) (hfr 36 (by decide)) (hfr 32 (by decide)) (hfr 33 (by decide)) (hfr 34 (by decide)) (hfr 35 (by decide))) (by omega)) (fun z214 hz214 => ?_)
            refine pe_goto (t := 221) d_M_fillText_217 ?_
            refine pe_iastT d_M_fillText_221 rfl (by omega) (by omega) hB (by first | exact hB _ _ | exact hB0 _ _ | exact hBt _ _ | exact ⟨by omega, by omega⟩) (fun σ221 hB e221 o221 f221 => ?_)
            try have u221_0 : σ221 29 1 = τ2 29 1 := by first | exact o221 1 (by decide) | exact congrFun (f221 29 (by decide)) 1
            try have u221_1 : σ221 29 2 = τ2 29 2 := by first | exact o221 2 (by decide) | exact congrFun (f221 29 (by decide)) 2
            try have u221_2 : σ221 29 3 = τ2 29 3 := by first | exact o221 3 (by decide) | exact congrFun (f221 29 (by decide)) 3
            try have u221_3 : σ221 29 7 = τ2 29 7 := by first | exact o221 7 (by decide) | exact congrFun (f221 29 (by decide)) 7
            try have u221_4 : σ221 29 21 = τ2 29 21 := by first | exact o221 21 (by decide) | exact congrFun (f221 29 (by decide)) 21
            try have u221_5 : σ221 29 22 = τ2 29 22 := by first | exact o221 22 (by decide) | exact congrFun (f221 29 (by decide)) 22
            try have u221_6 : σ221 29 27 = τ2 29 27 := by first | exact o221 27 (by decide) | exact congrFun (f221 29 (by decide)) 27
            have hv : 0 ≤ σ221 40 (a + k) ∧ (σ 38 p + k = 0 → σ221 40 (a + k) % 65536 ≠ 0) ∧ (pe_wi (σ221 40 (a + k) % 65536) → σ 38 p + k + 1 < σ 29 21) := by
              rw [e221]
              first
              | exact ⟨by omega, fun _ => by omega, fun z => absurd z (pe_nw (by omega))⟩
              | exact ⟨by omega, fun e => by omega, fun z => absurd z (pe_nw (by omega))⟩
              | (have hzz : z214 % 65536 = σ 30 p := by rw [hz214.2, hfr 30 (by decide)]
                 have hn0 := hN p (by omega) (by omega)
                 rw [hzz]
                 exact ⟨by omega, fun e => hn0, fun z => by have q := hlo.2.2.2 (by omega) z; omega⟩)
            have hD8 : pe_DW (τ2 29) (σ221 40) := pe_DW_up (r := r) (c := σ 38 p + k) hD2 (by omega) (v := σ221 40 (a + k)) (by rw [show τ2 29 21 * r + (σ 38 p + k) = a + k by rw [v_29_21, ha9]; omega]) (fun j hj => o221 j (by rw [v_29_21] at hj; omega)) hv.1 hv.2.1 (fun z => by have q := hv.2.2 z; omega)
            refine pe_aload_n d_M_fillText_222 rfl ?_
            refine pe_getr f_M_53 d_M_fillText_223 rfl rfl ?_
            refine pe_iload d_M_fillText_226 rfl ?_
            refine pe_iload d_M_fillText_228 rfl ?_
            refine pe_iadd d_M_fillText_230 ?_
            refine pe_iload d_M_fillText_231 rfl ?_
            refine pe_iastT d_M_fillText_233 rfl (by omega) (by omega) hB (by first | exact hB _ _ | exact hB0 _ _ | exact hBt _ _ | exact ⟨by omega, by omega⟩) (fun σ233 hB e233 o233 f233 => ?_)
            try have u233_0 : σ233 29 1 = σ221 29 1 := by first | exact o233 1 (by decide) | exact congrFun (f233 29 (by decide)) 1
            try have u233_1 : σ233 29 2 = σ221 29 2 := by first | exact o233 2 (by decide) | exact congrFun (f233 29 (by decide)) 2
            try have u233_2 : σ233 29 3 = σ221 29 3 := by first | exact o233 3 (by decide) | exact congrFun (f233 29 (by decide)) 3
            try have u233_3 : σ233 29 7 = σ221 29 7 := by first | exact o233 7 (by decide) | exact congrFun (f233 29 (by decide)) 7
            try have u233_4 : σ233 29 21 = σ221 29 21 := by first | exact o233 21 (by decide) | exact congrFun (f233 29 (by decide)) 21
            try have u233_5 : σ233 29 22 = σ221 29 22 := by first | exact o233 22 (by decide) | exact congrFun (f233 29 (by decide)) 22
            try have u233_6 : σ233 29 27 = σ221 29 27 := by first | exact o233 27 (by decide) | exact congrFun (f233 29 (by decide)) 27
            have hD9 : pe_DW (σ233 29) (σ233 40) := pe_DW_to hD8 (by omega) (by omega) (f233 40 (by decide))
            refine pe_iinc d_M_fillText_234 rfl ?_
            refine pe_goto (t := 177) d_M_fillText_237 ?_
            exact ih2 (_, _, _, _, _, _) ⟨hB, (fun b hb => (f233 b (by simp at hb ⊢; try omega)).trans ((f221 b (by simp at hb ⊢; try omega)).trans (hfr b (by simp at hb ⊢; try omega)))), hD9, hlo, hpl, hr9, ha9, hb9, hb0, hl9, by (try dsimp only); omega⟩ (by (try dsimp only); omega)
        · skip
          refine pe_bipush d_M_fillText_202 ?_
          refine pe_goto (t := 221) d_M_fillText_204 ?_
          refine pe_iastT d_M_fillText_221 rfl (by omega) (by omega) hB (by first | exact hB _ _ | exact hB0 _ _ | exact hBt _ _ | exact ⟨by omega, by omega⟩) (fun σ221 hB e221 o221 f221 => ?_)
          try have u221_0 : σ221 29 1 = τ2 29 1 := by first | exact o221 1 (by decide) | exact congrFun (f221 29 (by decide)) 1
          try have u221_1 : σ221 29 2 = τ2 29 2 := by first | exact o221 2 (by decide) | exact congrFun (f221 29 (by decide)) 2
          try have u221_2 : σ221 29 3 = τ2 29 3 := by first | exact o221 3 (by decide) | exact congrFun (f221 29 (by decide)) 3
          try have u221_3 : σ221 29 7 = τ2 29 7 := by first | exact o221 7 (by decide) | exact congrFun (f221 29 (by decide)) 7
          try have u221_4 : σ221 29 21 = τ2 29 21 := by first | exact o221 21 (by decide) | exact congrFun (f221 29 (by decide)) 21
          try have u221_5 : σ221 29 22 = τ2 29 22 := by first | exact o221 22 (by decide) | exact congrFun (f221 29 (by decide)) 22
          try have u221_6 : σ221 29 27 = τ2 29 27 := by first | exact o221 27 (by decide) | exact congrFun (f221 29 (by decide)) 27
          have hv : 0 ≤ σ221 40 (a + k) ∧ (σ 38 p + k = 0 → σ221 40 (a + k) % 65536 ≠ 0) ∧ (pe_wi (σ221 40 (a + k) % 65536) → σ 38 p + k + 1 < σ 29 21) := by
            rw [e221]
            first
            | exact ⟨by omega, fun _ => by omega, fun z => absurd z (pe_nw (by omega))⟩
            | exact ⟨by omega, fun e => by omega, fun z => absurd z (pe_nw (by omega))⟩
            | (have hzz : z214 % 65536 = σ 30 p := by rw [hz214.2, hfr 30 (by decide)]
               have hn0 := hN p (by omega) (by omega)
               rw [hzz]
               exact ⟨by omega, fun e => hn0, fun z => by have q := hlo.2.2.2 (by omega) z; omega⟩)
          have hD8 : pe_DW (τ2 29) (σ221 40) := pe_DW_up (r := r) (c := σ 38 p + k) hD2 (by omega) (v := σ221 40 (a + k)) (by rw [show τ2 29 21 * r + (σ 38 p + k) = a + k by rw [v_29_21, ha9]; omega]) (fun j hj => o221 j (by rw [v_29_21] at hj; omega)) hv.1 hv.2.1 (fun z => by have q := hv.2.2 z; omega)
          refine pe_aload_n d_M_fillText_222 rfl ?_
          refine pe_getr f_M_53 d_M_fillText_223 rfl rfl ?_
          refine pe_iload d_M_fillText_226 rfl ?_
          refine pe_iload d_M_fillText_228 rfl ?_
          refine pe_iadd d_M_fillText_230 ?_
          refine pe_iload d_M_fillText_231 rfl ?_
          refine pe_iastT d_M_fillText_233 rfl (by omega) (by omega) hB (by first | exact hB _ _ | exact hB0 _ _ | exact hBt _ _ | exact ⟨by omega, by omega⟩) (fun σ233 hB e233 o233 f233 => ?_)
          try have u233_0 : σ233 29 1 = σ221 29 1 := by first | exact o233 1 (by decide) | exact congrFun (f233 29 (by decide)) 1
          try have u233_1 : σ233 29 2 = σ221 29 2 := by first | exact o233 2 (by decide) | exact congrFun (f233 29 (by decide)) 2
          try have u233_2 : σ233 29 3 = σ221 29 3 := by first | exact o233 3 (by decide) | exact congrFun (f233 29 (by decide)) 3
          try have u233_3 : σ233 29 7 = σ221 29 7 := by first | exact o233 7 (by decide) | exact congrFun (f233 29 (by decide)) 7
          try have u233_4 : σ233 29 21 = σ221 29 21 := by first | exact o233 21 (by decide) | exact congrFun (f233 29 (by decide)) 21
          try have u233_5 : σ233 29 22 = σ221 29 22 := by first | exact o233 22 (by decide) | exact congrFun (f233 29 (by decide)) 22
          try have u233_6 : σ233 29 27 = σ221 29 27 := by first | exact o233 27 (by decide) | exact congrFun (f233 29 (by decide)) 27
          have hD9 : pe_DW (σ233 29) (σ233 40) := pe_DW_to hD8 (by omega) (by omega) (f233 40 (by decide))
          refine pe_iinc d_M_fillText_234 rfl ?_
          refine pe_goto (t := 177) d_M_fillText_237 ?_
          exact ih2 (_, _, _, _, _, _) ⟨hB, (fun b hb => (f233 b (by simp at hb ⊢; try omega)).trans ((f221 b (by simp at hb ⊢; try omega)).trans (hfr b (by simp at hb ⊢; try omega)))), hD9, hlo, hpl, hr9, ha9, hb9, hb0, hl9, by (try dsimp only); omega⟩ (by (try dsimp only); omega)
    have J81 : ∀ r : Int, ((0 ≤ p ∧ p ≤ σ 29 1) ∧ (-2000 ≤ r ∧ r ≤ 2000) ∧ (0 ≤ r → (0 ≤ σ 38 p ∧ 1 ≤ σ 39 p ∧ σ 38 p + σ 39 p ≤ σ 29 21 ∧ (p < σ 29 1 → pe_wi (σ 30 p) → σ 39 p = 2)))) → pe_G m_M_fillText 81 [some (pe_r 29), some (pe_i f), some (pe_i t), some (pe_i p), some (pe_i r), none, none, none, none] [] τ (pe_qv (fun σ' => pe_B σ' ∧ (∀ b, b ∉ [40, 41] → σ' b = σ b) ∧ pe_DW (σ' 29) (σ' 40))) := by
      intro r hI
      obtain ⟨hpl, hrr, hlo9⟩ := hI
      have w38 : τ 38 p = σ 38 p := congrFun (hfr 38 (by decide)) p
      refine pe_iload d_M_fillText_81 rfl ?_
      refine pe_if_lt (t := 240) d_M_fillText_83 (by first | exact hB _ _ | exact hB0 _ _ | exact hBt _ _ | exact ⟨by omega, by omega⟩) (fun h83 => ?_) (fun h83 => ?_)
      · skip
        first
        | exact pe_drop 4 (pe_drop 5 (pe_drop 6 (pe_drop 7 (pe_drop 8 (J240 (0, _) ⟨hB, (fun b hb => hfr b (by simp at hb ⊢; try omega)), rfl, by (try dsimp only); omega, hD2⟩)))))
        | exact pe_drop 4 (pe_drop 5 (pe_drop 6 (pe_drop 7 (pe_drop 8 (J240 (0, _) ⟨hB, (fun b hb => hfr b (by simp at hb ⊢; try omega)), rfl, by (try dsimp only); omega, hD⟩)))))
      · skip
        refine pe_iload d_M_fillText_86 rfl ?_
        refine pe_aload_n d_M_fillText_88 rfl ?_
        refine pe_geti f_M_81 d_M_fillText_89 rfl rfl 22 rfl ?_
        refine pe_iconst d_M_fillText_92 ?_
        refine pe_isub d_M_fillText_93 ?_
        refine pe_icmp_ge (t := 240) d_M_fillText_94 (by first | exact hB _ _ | exact hB0 _ _ | exact hBt _ _ | exact ⟨by omega, by omega⟩) (by first | exact hB _ _ | exact hB0 _ _ | exact hBt _ _ | exact ⟨by omega, by omega⟩) (fun h94 => ?_) (fun h94 => ?_)
        · skip
          first
          | exact pe_drop 4 (pe_drop 5 (pe_drop 6 (pe_drop 7 (pe_drop 8 (J240 (0, _) ⟨hB, (fun b hb => hfr b (by simp at hb ⊢; try omega)), rfl, by (try dsimp only); omega, hD2⟩)))))
          | exact pe_drop 4 (pe_drop 5 (pe_drop 6 (pe_drop 7 (pe_drop 8 (J240 (0, _) ⟨hB, (fun b hb => hfr b (by simp at hb ⊢; try omega)), rfl, by (try dsimp only); omega, hD⟩)))))
        · skip
          have hlo := hlo9 (by omega)
          have ixx := pe_ix (W := σ 29 21) (H := σ 29 22) (r := r) (c := 0) (by omega) (by omega) (by omega) (by omega)
          refine pe_aload_n d_M_fillText_97 rfl ?_
          refine pe_geti f_M_78 d_M_fillText_98 rfl rfl 21 rfl ?_
          refine pe_iload d_M_fillText_101 rfl ?_
          refine pe_imul d_M_fillText_103 ?_
          refine pe_aload_n d_M_fillText_104 rfl ?_
          refine pe_getr f_M_44 d_M_fillText_105 rfl rfl ?_
          refine pe_iload_n d_M_fillText_108 rfl ?_
          refine pe_iald d_M_fillText_109 rfl (by omega) (by omega) ?_
          refine pe_iadd d_M_fillText_110 ?_
          have hat : τ 29 21 * r + τ 38 p = σ 29 21 * r + σ 38 p := by rw [v_29_21, w38]
          refine pe_istore d_M_fillText_111 ?_
          refine pe_iload_n d_M_fillText_113 rfl ?_
          refine pe_aload_n d_M_fillText_114 rfl ?_
          refine pe_geti f_M_87 d_M_fillText_115 rfl rfl 1 rfl ?_
          refine pe_icmp_eq (t := 143) d_M_fillText_118 (by first | exact hB _ _ | exact hB0 _ _ | exact hBt _ _ | exact ⟨by omega, by omega⟩) (by first | exact hB _ _ | exact hB0 _ _ | exact hBt _ _ | exact ⟨by omega, by omega⟩) (fun h118 => ?_) (fun h118 => ?_)
          · skip
            refine pe_iconst d_M_fillText_143 ?_
            refine pe_goto (t := 148) d_M_fillText_144 ?_
            refine pe_istore d_M_fillText_148 ?_
            refine pe_aload_n d_M_fillText_150 rfl ?_
            refine pe_geti f_M_13 d_M_fillText_151 rfl rfl 3 rfl ?_
            refine pe_if_lt (t := 171) d_M_fillText_154 (by first | exact hB _ _ | exact hB0 _ _ | exact hBt _ _ | exact ⟨by omega, by omega⟩) (fun h154 => ?_) (fun h154 => ?_)
            · skip
              refine pe_iconst d_M_fillText_171 ?_
              refine pe_istore d_M_fillText_172 ?_
              refine pe_iconst d_M_fillText_174 ?_
              refine pe_istore d_M_fillText_175 ?_
              exact J177 (_, _, _, _, _, _) ⟨hB, (fun b hb => hfr b (by simp at hb ⊢; try omega)), hD, hlo, by (try dsimp only); omega, by (try dsimp only); omega, hat, by (try dsimp only); omega, by (try dsimp only); omega, by (try dsimp only); omega, by (try dsimp only); omega⟩
            · skip
              refine pe_iload_n d_M_fillText_157 rfl ?_
              refine pe_iload_n d_M_fillText_158 rfl ?_
              refine pe_icmp_lt (t := 171) d_M_fillText_159 (by first | exact hB _ _ | exact hB0 _ _ | exact hBt _ _ | exact ⟨by omega, by omega⟩) (by first | exact hB _ _ | exact hB0 _ _ | exact hBt _ _ | exact ⟨by omega, by omega⟩) (fun h159 => ?_) (fun h159 => ?_)
              · skip
                refine pe_iconst d_M_fillText_171 ?_
                refine pe_istore d_M_fillText_172 ?_
                refine pe_iconst d_M_fillText_174 ?_
                refine pe_istore d_M_fillText_175 ?_
                exact J177 (_, _, _, _, _, _) ⟨hB, (fun b hb => hfr b (by simp at hb ⊢; try omega)), hD, hlo, by (try dsimp only); omega, by (try dsimp only); omega, hat, by (try dsimp only); omega, by (try dsimp only); omega, by (try dsimp only); omega, by (try dsimp only); omega⟩
              · skip
                refine pe_iload_n d_M_fillText_162 rfl ?_
                refine pe_iload_n d_M_fillText_163 rfl ?_
                refine pe_icmp_ge (t := 171) d_M_fillText_164 (by first | exact hB _ _ | exact hB0 _ _ | exact hBt _ _ | exact ⟨by omega, by omega⟩) (by first | exact hB _ _ | exact hB0 _ _ | exact hBt _ _ | exact ⟨by omega, by omega⟩) (fun h164 => ?_) (fun h164 => ?_)
                · skip
                  refine pe_iconst d_M_fillText_171 ?_
                  refine pe_istore d_M_fillText_172 ?_
                  refine pe_iconst d_M_fillText_174 ?_
                  refine pe_istore d_M_fillText_175 ?_
                  exact J177 (_, _, _, _, _, _) ⟨hB, (fun b hb => hfr b (by simp at hb ⊢; try omega)), hD, hlo, by (try dsimp only); omega, by (try dsimp only); omega, hat, by (try dsimp only); omega, by (try dsimp only); omega, by (try dsimp only); omega, by (try dsimp only); omega⟩
                · skip
                  refine pe_iconst d_M_fillText_167 ?_
                  refine pe_goto (t := 172) d_M_fillText_168 ?_
                  refine pe_istore d_M_fillText_172 ?_
                  refine pe_iconst d_M_fillText_174 ?_
                  refine pe_istore d_M_fillText_175 ?_
                  exact J177 (_, _, _, _, _, _) ⟨hB, (fun b hb => hfr b (by simp at hb ⊢; try omega)), hD, hlo, by (try dsimp only); omega, by (try dsimp only); omega, hat, by (try dsimp only); omega, by (try dsimp only); omega, by (try dsimp only); omega, by (try dsimp only); omega⟩
          · skip
            refine pe_aload_n d_M_fillText_121 rfl ?_
            refine pe_getr f_M_7 d_M_fillText_122 rfl rfl ?_
            refine pe_iload_n d_M_fillText_125 rfl ?_
            refine pe_iald d_M_fillText_126 rfl (by omega) (by omega) ?_
            refine pe_bipush d_M_fillText_127 ?_
            refine pe_icmp_eq (t := 143) d_M_fillText_129 (by first | exact hB _ _ | exact hB0 _ _ | exact hBt _ _ | exact ⟨by omega, by omega⟩) (by first | exact hB _ _ | exact hB0 _ _ | exact hBt _ _ | exact ⟨by omega, by omega⟩) (fun h129 => ?_) (fun h129 => ?_)
            · skip
              refine pe_iconst d_M_fillText_143 ?_
              refine pe_goto (t := 148) d_M_fillText_144 ?_
              refine pe_istore d_M_fillText_148 ?_
              refine pe_aload_n d_M_fillText_150 rfl ?_
              refine pe_geti f_M_13 d_M_fillText_151 rfl rfl 3 rfl ?_
              refine pe_if_lt (t := 171) d_M_fillText_154 (by first | exact hB _ _ | exact hB0 _ _ | exact hBt _ _ | exact ⟨by omega, by omega⟩) (fun h154 => ?_) (fun h154 => ?_)
              · skip
                refine pe_iconst d_M_fillText_171 ?_
                refine pe_istore d_M_fillText_172 ?_
                refine pe_iconst d_M_fillText_174 ?_
                refine pe_istore d_M_fillText_175 ?_
                exact J177 (_, _, _, _, _, _) ⟨hB, (fun b hb => hfr b (by simp at hb ⊢; try omega)), hD, hlo, by (try dsimp only); omega, by (try dsimp only); omega, hat, by (try dsimp only); omega, by (try dsimp only); omega, by (try dsimp only); omega, by (try dsimp only); omega⟩
              · skip
                refine pe_iload_n d_M_fillText_157 rfl ?_
                refine pe_iload_n d_M_fillText_158 rfl ?_
                refine pe_icmp_lt (t := 171) d_M_fillText_159 (by first | exact hB _ _ | exact hB0 _ _ | exact hBt _ _ | exact ⟨by omega, by omega⟩) (by first | exact hB _ _ | exact hB0 _ _ | exact hBt _ _ | exact ⟨by omega, by omega⟩) (fun h159 => ?_) (fun h159 => ?_)
                · skip
                  refine pe_iconst d_M_fillText_171 ?_
                  refine pe_istore d_M_fillText_172 ?_
                  refine pe_iconst d_M_fillText_174 ?_
                  refine pe_istore d_M_fillText_175 ?_
                  exact J177 (_, _, _, _, _, _) ⟨hB, (fun b hb => hfr b (by simp at hb ⊢; try omega)), hD, hlo, by (try dsimp only); omega, by (try dsimp only); omega, hat, by (try dsimp only); omega, by (try dsimp only); omega, by (try dsimp only); omega, by (try dsimp only); omega⟩
                · skip
                  refine pe_iload_n d_M_fillText_162 rfl ?_
                  refine pe_iload_n d_M_fillText_163 rfl ?_
                  refine pe_icmp_ge (t := 171) d_M_fillText_164 (by first | exact hB _ _ | exact hB0 _ _ | exact hBt _ _ | exact ⟨by omega, by omega⟩) (by first | exact hB _ _ | exact hB0 _ _ | exact hBt _ _ | exact ⟨by omega, by omega⟩) (fun h164 => ?_) (fun h164 => ?_)
                  · skip
                    refine pe_iconst d_M_fillText_171 ?_
                    refine pe_istore d_M_fillText_172 ?_
                    refine pe_iconst d_M_fillText_174 ?_
                    refine pe_istore d_M_fillText_175 ?_
                    exact J177 (_, _, _, _, _, _) ⟨hB, (fun b hb => hfr b (by simp at hb ⊢; try omega)), hD, hlo, by (try dsimp only); omega, by (try dsimp only); omega, hat, by (try dsimp only); omega, by (try dsimp only); omega, by (try dsimp only); omega, by (try dsimp only); omega⟩
                  · skip
                    refine pe_iconst d_M_fillText_167 ?_
                    refine pe_goto (t := 172) d_M_fillText_168 ?_
                    refine pe_istore d_M_fillText_172 ?_
                    refine pe_iconst d_M_fillText_174 ?_
                    refine pe_istore d_M_fillText_175 ?_
                    exact J177 (_, _, _, _, _, _) ⟨hB, (fun b hb => hfr b (by simp at hb ⊢; try omega)), hD, hlo, by (try dsimp only); omega, by (try dsimp only); omega, hat, by (try dsimp only); omega, by (try dsimp only); omega, by (try dsimp only); omega, by (try dsimp only); omega⟩
            · skip
              refine pe_aload_n d_M_fillText_132 rfl ?_
              refine pe_getr f_M_7 d_M_fillText_133 rfl rfl ?_
              refine pe_iload_n d_M_fillText_136 rfl ?_
              refine pe_iald d_M_fillText_137 rfl (by omega) (by omega) ?_
              refine pe_bipush d_M_fillText_138 ?_
              refine pe_icmp_ne (t := 147) d_M_fillText_140 (by first | exact hB _ _ | exact hB0 _ _ | exact hBt _ _ | exact ⟨by omega, by omega⟩) (by first | exact hB _ _ | exact hB0 _ _ | exact hBt _ _ | exact ⟨by omega, by omega⟩) (fun h140 => ?_) (fun h140 => ?_)
              · skip
                refine pe_iconst d_M_fillText_147 ?_
                refine pe_istore d_M_fillText_148 ?_
                refine pe_aload_n d_M_fillText_150 rfl ?_
                refine pe_geti f_M_13 d_M_fillText_151 rfl rfl 3 rfl ?_
                refine pe_if_lt (t := 171) d_M_fillText_154 (by first | exact hB _ _ | exact hB0 _ _ | exact hBt _ _ | exact ⟨by omega, by omega⟩) (fun h154 => ?_) (fun h154 => ?_)
                · skip
                  refine pe_iconst d_M_fillText_171 ?_
                  refine pe_istore d_M_fillText_172 ?_
                  refine pe_iconst d_M_fillText_174 ?_
                  refine pe_istore d_M_fillText_175 ?_
                  exact J177 (_, _, _, _, _, _) ⟨hB, (fun b hb => hfr b (by simp at hb ⊢; try omega)), hD, hlo, by (try dsimp only); omega, by (try dsimp only); omega, hat, by (try dsimp only); omega, by (try dsimp only); omega, by (try dsimp only); omega, by (try dsimp only); omega⟩
                · skip
                  refine pe_iload_n d_M_fillText_157 rfl ?_
                  refine pe_iload_n d_M_fillText_158 rfl ?_
                  refine pe_icmp_lt (t := 171) d_M_fillText_159 (by first | exact hB _ _ | exact hB0 _ _ | exact hBt _ _ | exact ⟨by omega, by omega⟩) (by first | exact hB _ _ | exact hB0 _ _ | exact hBt _ _ | exact ⟨by omega, by omega⟩) (fun h159 => ?_) (fun h159 => ?_)
                  · skip
                    refine pe_iconst d_M_fillText_171 ?_
                    refine pe_istore d_M_fillText_172 ?_
                    refine pe_iconst d_M_fillText_174 ?_
                    refine pe_istore d_M_fillText_175 ?_
                    exact J177 (_, _, _, _, _, _) ⟨hB, (fun b hb => hfr b (by simp at hb ⊢; try omega)), hD, hlo, by (try dsimp only); omega, by (try dsimp only); omega, hat, by (try dsimp only); omega, by (try dsimp only); omega, by (try dsimp only); omega, by (try dsimp only); omega⟩
                  · skip
                    refine pe_iload_n d_M_fillText_162 rfl ?_
                    refine pe_iload_n d_M_fillText_163 rfl ?_
                    refine pe_icmp_ge (t := 171) d_M_fillText_164 (by first | exact hB _ _ | exact hB0 _ _ | exact hBt _ _ | exact ⟨by omega, by omega⟩) (by first | exact hB _ _ | exact hB0 _ _ | exact hBt _ _ | exact ⟨by omega, by omega⟩) (fun h164 => ?_) (fun h164 => ?_)
                    · skip
                      refine pe_iconst d_M_fillText_171 ?_
                      refine pe_istore d_M_fillText_172 ?_
                      refine pe_iconst d_M_fillText_174 ?_
                      refine pe_istore d_M_fillText_175 ?_
                      exact J177 (_, _, _, _, _, _) ⟨hB, (fun b hb => hfr b (by simp at hb ⊢; try omega)), hD, hlo, by (try dsimp only); omega, by (try dsimp only); omega, hat, by (try dsimp only); omega, by (try dsimp only); omega, by (try dsimp only); omega, by (try dsimp only); omega⟩
                    · skip
                      refine pe_iconst d_M_fillText_167 ?_
                      refine pe_goto (t := 172) d_M_fillText_168 ?_
                      refine pe_istore d_M_fillText_172 ?_
                      refine pe_iconst d_M_fillText_174 ?_
                      refine pe_istore d_M_fillText_175 ?_
                      exact J177 (_, _, _, _, _, _) ⟨hB, (fun b hb => hfr b (by simp at hb ⊢; try omega)), hD, hlo, by (try dsimp only); omega, by (try dsimp only); omega, hat, by (try dsimp only); omega, by (try dsimp only); omega, by (try dsimp only); omega, by (try dsimp only); omega⟩
              · skip
                refine pe_iconst d_M_fillText_143 ?_
                refine pe_goto (t := 148) d_M_fillText_144 ?_
                refine pe_istore d_M_fillText_148 ?_
                refine pe_aload_n d_M_fillText_150 rfl ?_
                refine pe_geti f_M_13 d_M_fillText_151 rfl rfl 3 rfl ?_
                refine pe_if_lt (t := 171) d_M_fillText_154 (by first | exact hB _ _ | exact hB0 _ _ | exact hBt _ _ | exact ⟨by omega, by omega⟩) (fun h154 => ?_) (fun h154 => ?_)
                · skip
                  refine pe_iconst d_M_fillText_171 ?_
                  refine pe_istore d_M_fillText_172 ?_
                  refine pe_iconst d_M_fillText_174 ?_
                  refine pe_istore d_M_fillText_175 ?_
                  exact J177 (_, _, _, _, _, _) ⟨hB, (fun b hb => hfr b (by simp at hb ⊢; try omega)), hD, hlo, by (try dsimp only); omega, by (try dsimp only); omega, hat, by (try dsimp only); omega, by (try dsimp only); omega, by (try dsimp only); omega, by (try dsimp only); omega⟩
                · skip
                  refine pe_iload_n d_M_fillText_157 rfl ?_
                  refine pe_iload_n d_M_fillText_158 rfl ?_
                  refine pe_icmp_lt (t := 171) d_M_fillText_159 (by first | exact hB _ _ | exact hB0 _ _ | exact hBt _ _ | exact ⟨by omega, by omega⟩) (by first | exact hB _ _ | exact hB0 _ _ | exact hBt _ _ | exact ⟨by omega, by omega⟩) (fun h159 => ?_) (fun h159 => ?_)
                  · skip
                    refine pe_iconst d_M_fillText_171 ?_
                    refine pe_istore d_M_fillText_172 ?_
                    refine pe_iconst d_M_fillText_174 ?_
                    refine pe_istore d_M_fillText_175 ?_
                    exact J177 (_, _, _, _, _, _) ⟨hB, (fun b hb => hfr b (by simp at hb ⊢; try omega)), hD, hlo, by (try dsimp only); omega, by (try dsimp only); omega, hat, by (try dsimp only); omega, by (try dsimp only); omega, by (try dsimp only); omega, by (try dsimp only); omega⟩
                  · skip
                    refine pe_iload_n d_M_fillText_162 rfl ?_
                    refine pe_iload_n d_M_fillText_163 rfl ?_
                    refine pe_icmp_ge (t := 171) d_M_fillText_164 (by first | exact hB _ _ | exact hB0 _ _ | exact hBt _ _ | exact ⟨by omega, by omega⟩) (by first | exact hB _ _ | exact hB0 _ _ | exact hBt _ _ | exact ⟨by omega, by omega⟩) (fun h164 => ?_) (fun h164 => ?_)
                    · skip
                      refine pe_iconst d_M_fillText_171 ?_
                      refine pe_istore d_M_fillText_172 ?_
                      refine pe_iconst d_M_fillText_174 ?_
                      refine pe_istore d_M_fillText_175 ?_
                      exact J177 (_, _, _, _, _, _) ⟨hB, (fun b hb => hfr b (by simp at hb ⊢; try omega)), hD, hlo, by (try dsimp only); omega, by (try dsimp only); omega, hat, by (try dsimp only); omega, by (try dsimp only); omega, by (try dsimp only); omega, by (try dsimp only); omega⟩
                    · skip
                      refine pe_iconst d_M_fillText_167 ?_
                      refine pe_goto (t := 172) d_M_fillText_168 ?_
                      refine pe_istore d_M_fillText_172 ?_
                      refine pe_iconst d_M_fillText_174 ?_
                      refine pe_istore d_M_fillText_175 ?_
                      exact J177 (_, _, _, _, _, _) ⟨hB, (fun b hb => hfr b (by simp at hb ⊢; try omega)), hD, hlo, by (try dsimp only); omega, by (try dsimp only); omega, hat, by (try dsimp only); omega, by (try dsimp only); omega, by (try dsimp only); omega, by (try dsimp only); omega⟩
    refine pe_iload_n d_M_fillText_48 rfl ?_
    refine pe_aload_n d_M_fillText_49 rfl ?_
    refine pe_geti f_M_87 d_M_fillText_50 rfl rfl 1 rfl ?_
    refine pe_icmp_gt (t := 246) d_M_fillText_53 (by first | exact hB _ _ | exact hB0 _ _ | exact hBt _ _ | exact ⟨by omega, by omega⟩) (by first | exact hB _ _ | exact hB0 _ _ | exact hBt _ _ | exact ⟨by omega, by omega⟩) (fun h53 => ?_) (fun h53 => ?_)
    · skip
      refine pe_rv d_M_fillText_246 ?_
      exact ⟨hB, (fun b hb => hfr b (by simp at hb ⊢; try omega)), hD⟩
    · skip
      refine pe_aload_n d_M_fillText_56 rfl ?_
      refine pe_iload_n d_M_fillText_57 rfl ?_
      refine pe_v1p d_M_fillText_58 c_M_94 i_M_begins s_M_begins rfl rfl (t_M_begins hB (by omega) (by omega)) (fun z58 hz58 => ?_)
      refine pe_if_eq (t := 78) d_M_fillText_61 (by first | exact hB _ _ | exact hB0 _ _ | exact hBt _ _ | exact ⟨by omega, by omega⟩) (fun h61 => ?_) (fun h61 => ?_)
      · skip
        refine pe_iconst d_M_fillText_78 ?_
        refine pe_istore d_M_fillText_79 ?_
        first | exact J81 _ ⟨by omega, by omega, fun _ => ⟨lo.2.2.1, lo.2.2.2.1, lo.2.2.2.2.1, lo.2.2.2.2.2⟩⟩ | exact J81 _ ⟨by omega, by omega, fun q => by omega⟩
      · skip
        have bgp : pe_bg (σ 30) (σ 29 1) p := by have q := hz58.2.mp (by omega); rw [hfr 30 (by decide), v_29_1] at q; exact q
        have lo := hLO.1 p (by omega) (by omega) bgp
        have w37 : τ 37 p = σ 37 p := congrFun (hfr 37 (by decide)) p
        have w38 : τ 38 p = σ 38 p := congrFun (hfr 38 (by decide)) p
        refine pe_aload_n d_M_fillText_64 rfl ?_
        refine pe_getr f_M_41 d_M_fillText_65 rfl rfl ?_
        refine pe_iload_n d_M_fillText_68 rfl ?_
        refine pe_iald d_M_fillText_69 rfl (by omega) (by omega) ?_
        refine pe_aload_n d_M_fillText_70 rfl ?_
        refine pe_geti f_M_222 d_M_fillText_71 rfl rfl 27 rfl ?_
        refine pe_isub d_M_fillText_74 ?_
        refine pe_goto (t := 79) d_M_fillText_75 ?_
        refine pe_istore d_M_fillText_79 ?_
        first | exact J81 _ ⟨by omega, by omega, fun _ => ⟨lo.2.2.1, lo.2.2.2.1, lo.2.2.2.2.1, lo.2.2.2.2.2⟩⟩ | exact J81 _ ⟨by omega, by omega, fun q => by omega⟩
  refine pe_aload_n d_M_fillText_0 rfl ?_
  refine pe_geti f_M_13 d_M_fillText_1 rfl rfl 3 rfl ?_
  refine pe_aload_n d_M_fillText_4 rfl ?_
  refine pe_geti f_M_117 d_M_fillText_5 rfl rfl 2 rfl ?_
  refine pe_icmp_ge (t := 18) d_M_fillText_8 (by first | exact hB _ _ | exact hB0 _ _ | exact hBt _ _ | exact ⟨by omega, by omega⟩) (by first | exact hB _ _ | exact hB0 _ _ | exact hBt _ _ | exact ⟨by omega, by omega⟩) (fun h8 => ?_) (fun h8 => ?_)
  · skip
    refine pe_aload_n d_M_fillText_18 rfl ?_
    refine pe_geti f_M_117 d_M_fillText_19 rfl rfl 2 rfl ?_
    refine pe_istore_n d_M_fillText_22 ?_
    refine pe_aload_n d_M_fillText_23 rfl ?_
    refine pe_geti f_M_13 d_M_fillText_24 rfl rfl 3 rfl ?_
    refine pe_aload_n d_M_fillText_27 rfl ?_
    refine pe_geti f_M_117 d_M_fillText_28 rfl rfl 2 rfl ?_
    refine pe_icmp_ge (t := 41) d_M_fillText_31 (by first | exact hB _ _ | exact hB0 _ _ | exact hBt _ _ | exact ⟨by omega, by omega⟩) (by first | exact hB _ _ | exact hB0 _ _ | exact hBt _ _ | exact ⟨by omega, by omega⟩) (fun h31 => ?_) (fun h31 => ?_)
    · skip
      refine pe_aload_n d_M_fillText_41 rfl ?_
      refine pe_geti f_M_13 d_M_fillText_42 rfl rfl 3 rfl ?_
      refine pe_istore_n d_M_fillText_45 ?_
      refine pe_iconst d_M_fillText_46 ?_
      refine pe_istore_n d_M_fillText_47 ?_
      exact J48 (_, _, _, _) ⟨hB, (fun b hb => rfl), hD, by (try dsimp only); omega⟩
    · skip
      refine pe_aload_n d_M_fillText_34 rfl ?_
      refine pe_geti f_M_117 d_M_fillText_35 rfl rfl 2 rfl ?_
      refine pe_goto (t := 45) d_M_fillText_38 ?_
      refine pe_istore_n d_M_fillText_45 ?_
      refine pe_iconst d_M_fillText_46 ?_
      refine pe_istore_n d_M_fillText_47 ?_
      exact J48 (_, _, _, _) ⟨hB, (fun b hb => rfl), hD, by (try dsimp only); omega⟩
  · skip
    refine pe_aload_n d_M_fillText_11 rfl ?_
    refine pe_geti f_M_13 d_M_fillText_12 rfl rfl 3 rfl ?_
    refine pe_goto (t := 22) d_M_fillText_15 ?_
    refine pe_istore_n d_M_fillText_22 ?_
    refine pe_aload_n d_M_fillText_23 rfl ?_
    refine pe_geti f_M_13 d_M_fillText_24 rfl rfl 3 rfl ?_
    refine pe_aload_n d_M_fillText_27 rfl ?_
    refine pe_geti f_M_117 d_M_fillText_28 rfl rfl 2 rfl ?_
    refine pe_icmp_ge (t := 41) d_M_fillText_31 (by first | exact hB _ _ | exact hB0 _ _ | exact hBt _ _ | exact ⟨by omega, by omega⟩) (by first | exact hB _ _ | exact hB0 _ _ | exact hBt _ _ | exact ⟨by omega, by omega⟩) (fun h31 => ?_) (fun h31 => ?_)
    · skip
      refine pe_aload_n d_M_fillText_41 rfl ?_
      refine pe_geti f_M_13 d_M_fillText_42 rfl rfl 3 rfl ?_
      refine pe_istore_n d_M_fillText_45 ?_
      refine pe_iconst d_M_fillText_46 ?_
      refine pe_istore_n d_M_fillText_47 ?_
      exact J48 (_, _, _, _) ⟨hB, (fun b hb => rfl), hD, by (try dsimp only); omega⟩
    · skip
      refine pe_aload_n d_M_fillText_34 rfl ?_
      refine pe_geti f_M_117 d_M_fillText_35 rfl rfl 2 rfl ?_
      refine pe_goto (t := 45) d_M_fillText_38 ?_
      refine pe_istore_n d_M_fillText_45 ?_
      refine pe_iconst d_M_fillText_46 ?_
      refine pe_istore_n d_M_fillText_47 ?_
      exact J48 (_, _, _, _) ⟨hB, (fun b hb => rfl), hD, by (try dsimp only); omega⟩
