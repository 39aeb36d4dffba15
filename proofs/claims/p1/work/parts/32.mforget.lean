theorem t_M_forgetFirst {σ : pe_H} (hB : pe_B σ) (A36 : (∀ j, 0 ≤ σ 36 j ∧ σ 36 j ≤ 65535)) : pe_M m_M_forgetFirst [pe_r 29] σ (pe_qv (fun σ' => pe_B σ' ∧ (∀ b, b ∉ [29, 32, 33, 34, 35, 36] → σ' b = σ b) ∧ (∀ j, j ∉ ([7] : List Int) → σ' 29 j = σ 29 j) ∧ (σ' 29 7 = 11 ∧ ((∀ j, 0 ≤ σ' 36 j ∧ σ' 36 j ≤ 65535) ∧ (∀ j, 0 ≤ j → j < 2200 → σ' 36 j = σ 36 (j + 200))) ∧ ((∀ j, 0 ≤ j → j < 11 → σ' 32 j = σ 32 (j + 1)) ∧ (∀ j, 0 ≤ j → j < 11 → σ' 33 j = σ 33 (j + 1)) ∧ (∀ j, 0 ≤ j → j < 11 → σ' 34 j = σ 34 (j + 1)) ∧ (∀ j, 0 ≤ j → j < 11 → σ' 35 j = σ 35 (j + 1)))))) := by
  refine pe_in0 (lv := [some (pe_r 29), none]) ?_
  have hB0 := hB
  have J74 : ∀ x : Int × pe_H, (pe_B x.2 ∧ (∀ b, b ∉ [32, 33, 34, 35, 36] → x.2 b = σ b) ∧ (∀ j, 0 ≤ x.2 36 j ∧ x.2 36 j ≤ 65535) ∧ ((∀ j, 0 ≤ j → j < 12 - 1 → x.2 32 j = σ 32 (j + 1)) ∧ (∀ j, 12 - 1 ≤ j → x.2 32 j = σ 32 j) ∧ (∀ j, 0 ≤ j → j < 12 - 1 → x.2 33 j = σ 33 (j + 1)) ∧ (∀ j, 12 - 1 ≤ j → x.2 33 j = σ 33 j) ∧ (∀ j, 0 ≤ j → j < 12 - 1 → x.2 34 j = σ 34 (j + 1)) ∧ (∀ j, 12 - 1 ≤ j → x.2 34 j = σ 34 j) ∧ (∀ j, 0 ≤ j → j < 12 - 1 → x.2 35 j = σ 35 (j + 1)) ∧ (∀ j, 12 - 1 ≤ j → x.2 35 j = σ 35 j)) ∧ (∀ j, 0 ≤ j → j < x.1 - 200 → x.2 36 j = σ 36 (j + 200)) ∧ (∀ j, x.1 - 200 ≤ j → x.2 36 j = σ 36 j) ∧ (200 ≤ x.1 ∧ x.1 ≤ 2400)) → pe_G m_M_forgetFirst 74 [some (pe_r 29), some (pe_i x.1)] [] x.2 (pe_qv (fun σ' => pe_B σ' ∧ (∀ b, b ∉ [29, 32, 33, 34, 35, 36] → σ' b = σ b) ∧ (∀ j, j ∉ ([7] : List Int) → σ' 29 j = σ 29 j) ∧ (σ' 29 7 = 11 ∧ ((∀ j, 0 ≤ σ' 36 j ∧ σ' 36 j ≤ 65535) ∧ (∀ j, 0 ≤ j → j < 2200 → σ' 36 j = σ 36 (j + 200))) ∧ ((∀ j, 0 ≤ j → j < 11 → σ' 32 j = σ 32 (j + 1)) ∧ (∀ j, 0 ≤ j → j < 11 → σ' 33 j = σ 33 (j + 1)) ∧ (∀ j, 0 ≤ j → j < 11 → σ' 34 j = σ 34 (j + 1)) ∧ (∀ j, 0 ≤ j → j < 11 → σ' 35 j = σ 35 (j + 1)))))) := by
    refine pe_loop (fun x : Int × pe_H => (3000 - x.1).toNat) _ _ ?_
    intro x hI ih
    obtain ⟨k, τ⟩ := x
    dsimp only at hI ⊢
    obtain ⟨hB, hfr, hX⟩ := hI
    have v_29_1 : τ 29 1 = σ 29 1 := congrFun (hfr 29 (by decide)) 1
    have v_29_2 : τ 29 2 = σ 29 2 := congrFun (hfr 29 (by decide)) 2
    have v_29_3 : τ 29 3 = σ 29 3 := congrFun (hfr 29 (by decide)) 3
    have v_29_7 : τ 29 7 = σ 29 7 := congrFun (hfr 29 (by decide)) 7
    obtain ⟨A36, hS, P1, P2, hX⟩ := hX
    have hBt := hB
    refine pe_iload_n d_M_forgetFirst_74 rfl ?_
    refine pe_sipush d_M_forgetFirst_75 ?_
    refine pe_icmp_ge (t := 103) d_M_forgetFirst_78 (by first | exact hB _ _ | exact hB0 _ _ | exact hBt _ _ | exact ⟨by omega, by omega⟩) (by first | exact hB _ _ | exact hB0 _ _ | exact hBt _ _ | exact ⟨by omega, by omega⟩) (fun h78 => ?_) (fun h78 => ?_)
    · skip
      refine pe_aload_n d_M_forgetFirst_103 rfl ?_
      refine pe_bipush d_M_forgetFirst_104 ?_
      refine pe_putiT f_M_111 g_11_7 d_M_forgetFirst_106 rfl rfl 7 rfl hB (by first | exact hB _ _ | exact hB0 _ _ | exact hBt _ _ | exact ⟨by omega, by omega⟩) (fun σ106 hB e106 o106 f106 => ?_)
      try have u106_0 : σ106 29 1 = τ 29 1 := by first | exact o106 1 (by decide) | exact congrFun (f106 29 (by decide)) 1
      try have u106_1 : σ106 29 2 = τ 29 2 := by first | exact o106 2 (by decide) | exact congrFun (f106 29 (by decide)) 2
      try have u106_2 : σ106 29 3 = τ 29 3 := by first | exact o106 3 (by decide) | exact congrFun (f106 29 (by decide)) 3
      refine pe_rv d_M_forgetFirst_109 ?_
      exact ⟨hB, (fun b hb => (f106 b (by simp at hb ⊢; try omega)).trans (hfr b (by simp at hb ⊢; try omega))), (fun j hj => (o106 j (by simp at hj ⊢; try omega)).trans (congrFun (hfr 29 (by decide)) j)), by omega, ⟨by rw [f106 36 (by decide)]; exact A36, fun j a b => by rw [f106 36 (by decide)]; exact P1 j a (by omega)⟩, fun j h1 h2 => by rw [f106 32 (by decide)]; exact hS.1 j h1 (by omega), fun j h1 h2 => by rw [f106 33 (by decide)]; exact hS.2.2.1 j h1 (by omega), fun j h1 h2 => by rw [f106 34 (by decide)]; exact hS.2.2.2.2.1 j h1 (by omega), fun j h1 h2 => by rw [f106 35 (by decide)]; exact hS.2.2.2.2.2.2.1 j h1 (by omega)⟩
    · skip
      refine pe_aload_n d_M_forgetFirst_81 rfl ?_
      refine pe_getr f_M_35 d_M_forgetFirst_82 rfl rfl ?_
      refine pe_iload_n d_M_forgetFirst_85 rfl ?_
      refine pe_sipush d_M_forgetFirst_86 ?_
      refine pe_isub d_M_forgetFirst_89 ?_
      refine pe_aload_n d_M_forgetFirst_90 rfl ?_
      refine pe_getr f_M_35 d_M_forgetFirst_91 rfl rfl ?_
      refine pe_iload_n d_M_forgetFirst_94 rfl ?_
      refine pe_iald d_M_forgetFirst_95 rfl (by omega) (by omega) ?_
      refine pe_iastT d_M_forgetFirst_96 rfl (by omega) (by omega) hB (by first | exact hB _ _ | exact hB0 _ _ | exact hBt _ _ | exact ⟨by omega, by omega⟩) (fun σ96 hB e96 o96 f96 => ?_)
      try have u96_0 : σ96 29 1 = τ 29 1 := by first | exact o96 1 (by decide) | exact congrFun (f96 29 (by decide)) 1
      try have u96_1 : σ96 29 2 = τ 29 2 := by first | exact o96 2 (by decide) | exact congrFun (f96 29 (by decide)) 2
      try have u96_2 : σ96 29 3 = τ 29 3 := by first | exact o96 3 (by decide) | exact congrFun (f96 29 (by decide)) 3
      have A36 : (∀ j, 0 ≤ σ96 36 j ∧ σ96 36 j ≤ 65535) := pe_all_up e96 o96 A36 (by first | omega | exact A36 _ | assumption)
      have hS : ((∀ j, 0 ≤ j → j < 12 - 1 → σ96 32 j = σ 32 (j + 1)) ∧ (∀ j, 12 - 1 ≤ j → σ96 32 j = σ 32 j) ∧ (∀ j, 0 ≤ j → j < 12 - 1 → σ96 33 j = σ 33 (j + 1)) ∧ (∀ j, 12 - 1 ≤ j → σ96 33 j = σ 33 j) ∧ (∀ j, 0 ≤ j → j < 12 - 1 → σ96 34 j = σ 34 (j + 1)) ∧ (∀ j, 12 - 1 ≤ j → σ96 34 j = σ 34 j) ∧ (∀ j, 0 ≤ j → j < 12 - 1 → σ96 35 j = σ 35 (j + 1)) ∧ (∀ j, 12 - 1 ≤ j → σ96 35 j = σ 35 j)) := by rw [f96 32 (by decide), f96 33 (by decide), f96 34 (by decide), f96 35 (by decide)]; exact hS
      have Q1 : ∀ j, 0 ≤ j → j < k + 1 - 200 → σ96 36 j = σ 36 (j + 200) := fun j a b => by
        by_cases e : j = k - 200
        · rw [e, e96, P2 k (by omega)]; congr 1; omega
        · rw [o96 j e]; exact P1 j a (by omega)
      have Q2 : ∀ j, k + 1 - 200 ≤ j → σ96 36 j = σ 36 j := fun j a => by rw [o96 j (by omega)]; exact P2 j (by omega)
      refine pe_iinc d_M_forgetFirst_97 rfl ?_
      refine pe_goto (t := 74) d_M_forgetFirst_100 ?_
      exact ih (_, _) ⟨hB, (fun b hb => (f96 b (by simp at hb ⊢; try omega)).trans (hfr b (by simp at hb ⊢; try omega))), A36, hS, Q1, Q2, by (try dsimp only); omega⟩ (by (try dsimp only); omega)
  have J2 : ∀ x : Int × pe_H, (pe_B x.2 ∧ (∀ b, b ∉ [32, 33, 34, 35] → x.2 b = σ b) ∧ ((∀ j, 0 ≤ j → j < x.1 - 1 → x.2 32 j = σ 32 (j + 1)) ∧ (∀ j, x.1 - 1 ≤ j → x.2 32 j = σ 32 j) ∧ (∀ j, 0 ≤ j → j < x.1 - 1 → x.2 33 j = σ 33 (j + 1)) ∧ (∀ j, x.1 - 1 ≤ j → x.2 33 j = σ 33 j) ∧ (∀ j, 0 ≤ j → j < x.1 - 1 → x.2 34 j = σ 34 (j + 1)) ∧ (∀ j, x.1 - 1 ≤ j → x.2 34 j = σ 34 j) ∧ (∀ j, 0 ≤ j → j < x.1 - 1 → x.2 35 j = σ 35 (j + 1)) ∧ (∀ j, x.1 - 1 ≤ j → x.2 35 j = σ 35 j)) ∧ (1 ≤ x.1 ∧ x.1 ≤ 12)) → pe_G m_M_forgetFirst 2 [some (pe_r 29), some (pe_i x.1)] [] x.2 (pe_qv (fun σ' => pe_B σ' ∧ (∀ b, b ∉ [29, 32, 33, 34, 35, 36] → σ' b = σ b) ∧ (∀ j, j ∉ ([7] : List Int) → σ' 29 j = σ 29 j) ∧ (σ' 29 7 = 11 ∧ ((∀ j, 0 ≤ σ' 36 j ∧ σ' 36 j ≤ 65535) ∧ (∀ j, 0 ≤ j → j < 2200 → σ' 36 j = σ 36 (j + 200))) ∧ ((∀ j, 0 ≤ j → j < 11 → σ' 32 j = σ 32 (j + 1)) ∧ (∀ j, 0 ≤ j → j < 11 → σ' 33 j = σ 33 (j + 1)) ∧ (∀ j, 0 ≤ j → j < 11 → σ' 34 j = σ 34 (j + 1)) ∧ (∀ j, 0 ≤ j → j < 11 → σ' 35 j = σ 35 (j + 1)))))) := by
    refine pe_loop (fun x : Int × pe_H => (100 - x.1).toNat) _ _ ?_
    intro x hI ih
    obtain ⟨k, τ⟩ := x
    dsimp only at hI ⊢
    obtain ⟨hB, hfr, hX⟩ := hI
    have v_29_1 : τ 29 1 = σ 29 1 := congrFun (hfr 29 (by decide)) 1
    have v_29_2 : τ 29 2 = σ 29 2 := congrFun (hfr 29 (by decide)) 2
    have v_29_3 : τ 29 3 = σ 29 3 := congrFun (hfr 29 (by decide)) 3
    have v_29_7 : τ 29 7 = σ 29 7 := congrFun (hfr 29 (by decide)) 7
    obtain ⟨hS, hX⟩ := hX
    obtain ⟨L32, U32, L33, U33, L34, U34, L35, U35⟩ := hS
    have hBt := hB
    refine pe_iload_n d_M_forgetFirst_2 rfl ?_
    refine pe_bipush d_M_forgetFirst_3 ?_
    refine pe_icmp_ge (t := 70) d_M_forgetFirst_5 (by first | exact hB _ _ | exact hB0 _ _ | exact hBt _ _ | exact ⟨by omega, by omega⟩) (by first | exact hB _ _ | exact hB0 _ _ | exact hBt _ _ | exact ⟨by omega, by omega⟩) (fun h5 => ?_) (fun h5 => ?_)
    · skip
      have hk12 : k = 12 := by omega
      subst hk12
      have hS : ((∀ j, 0 ≤ j → j < 12 - 1 → τ 32 j = σ 32 (j + 1)) ∧ (∀ j, 12 - 1 ≤ j → τ 32 j = σ 32 j) ∧ (∀ j, 0 ≤ j → j < 12 - 1 → τ 33 j = σ 33 (j + 1)) ∧ (∀ j, 12 - 1 ≤ j → τ 33 j = σ 33 j) ∧ (∀ j, 0 ≤ j → j < 12 - 1 → τ 34 j = σ 34 (j + 1)) ∧ (∀ j, 12 - 1 ≤ j → τ 34 j = σ 34 j) ∧ (∀ j, 0 ≤ j → j < 12 - 1 → τ 35 j = σ 35 (j + 1)) ∧ (∀ j, 12 - 1 ≤ j → τ 35 j = σ 35 j)) := ⟨L32, U32, L33, U33, L34, U34, L35, U35⟩
      refine pe_sipush d_M_forgetFirst_70 ?_
      refine pe_istore_n d_M_forgetFirst_73 ?_
      exact J74 (_, _) ⟨hB, (fun b hb => hfr b (by simp at hb ⊢; try omega)), by (try dsimp only); rw [hfr 36 (by decide)]; exact A36, hS, fun j a b => by (try dsimp only at *); omega, fun j a => by (try dsimp only); rw [hfr 36 (by decide)], by (try dsimp only); omega⟩
    · skip
      refine pe_aload_n d_M_forgetFirst_8 rfl ?_
      refine pe_getr f_M_23 d_M_forgetFirst_9 rfl rfl ?_
      refine pe_iload_n d_M_forgetFirst_12 rfl ?_
      refine pe_iconst d_M_forgetFirst_13 ?_
      refine pe_isub d_M_forgetFirst_14 ?_
      refine pe_aload_n d_M_forgetFirst_15 rfl ?_
      refine pe_getr f_M_23 d_M_forgetFirst_16 rfl rfl ?_
      refine pe_iload_n d_M_forgetFirst_19 rfl ?_
      refine pe_iald d_M_forgetFirst_20 rfl (by omega) (by omega) ?_
      refine pe_iastT d_M_forgetFirst_21 rfl (by omega) (by omega) hB (by first | exact hB _ _ | exact hB0 _ _ | exact hBt _ _ | exact ⟨by omega, by omega⟩) (fun σ21 hB e21 o21 f21 => ?_)
      try have u21_0 : σ21 29 1 = τ 29 1 := by first | exact o21 1 (by decide) | exact congrFun (f21 29 (by decide)) 1
      try have u21_1 : σ21 29 2 = τ 29 2 := by first | exact o21 2 (by decide) | exact congrFun (f21 29 (by decide)) 2
      try have u21_2 : σ21 29 3 = τ 29 3 := by first | exact o21 3 (by decide) | exact congrFun (f21 29 (by decide)) 3
      refine pe_aload_n d_M_forgetFirst_22 rfl ?_
      refine pe_getr f_M_26 d_M_forgetFirst_23 rfl rfl ?_
      refine pe_iload_n d_M_forgetFirst_26 rfl ?_
      refine pe_iconst d_M_forgetFirst_27 ?_
      refine pe_isub d_M_forgetFirst_28 ?_
      refine pe_aload_n d_M_forgetFirst_29 rfl ?_
      refine pe_getr f_M_26 d_M_forgetFirst_30 rfl rfl ?_
      refine pe_iload_n d_M_forgetFirst_33 rfl ?_
      refine pe_iald d_M_forgetFirst_34 rfl (by omega) (by omega) ?_
      refine pe_iastT d_M_forgetFirst_35 rfl (by omega) (by omega) hB (by first | exact hB _ _ | exact hB0 _ _ | exact hBt _ _ | exact ⟨by omega, by omega⟩) (fun σ35 hB e35 o35 f35 => ?_)
      try have u35_0 : σ35 29 1 = σ21 29 1 := by first | exact o35 1 (by decide) | exact congrFun (f35 29 (by decide)) 1
      try have u35_1 : σ35 29 2 = σ21 29 2 := by first | exact o35 2 (by decide) | exact congrFun (f35 29 (by decide)) 2
      try have u35_2 : σ35 29 3 = σ21 29 3 := by first | exact o35 3 (by decide) | exact congrFun (f35 29 (by decide)) 3
      refine pe_aload_n d_M_forgetFirst_36 rfl ?_
      refine pe_getr f_M_29 d_M_forgetFirst_37 rfl rfl ?_
      refine pe_iload_n d_M_forgetFirst_40 rfl ?_
      refine pe_iconst d_M_forgetFirst_41 ?_
      refine pe_isub d_M_forgetFirst_42 ?_
      refine pe_aload_n d_M_forgetFirst_43 rfl ?_
      refine pe_getr f_M_29 d_M_forgetFirst_44 rfl rfl ?_
      refine pe_iload_n d_M_forgetFirst_47 rfl ?_
      refine pe_iald d_M_forgetFirst_48 rfl (by omega) (by omega) ?_
      refine pe_iastT d_M_forgetFirst_49 rfl (by omega) (by omega) hB (by first | exact hB _ _ | exact hB0 _ _ | exact hBt _ _ | exact ⟨by omega, by omega⟩) (fun σ49 hB e49 o49 f49 => ?_)
      try have u49_0 : σ49 29 1 = σ35 29 1 := by first | exact o49 1 (by decide) | exact congrFun (f49 29 (by decide)) 1
      try have u49_1 : σ49 29 2 = σ35 29 2 := by first | exact o49 2 (by decide) | exact congrFun (f49 29 (by decide)) 2
      try have u49_2 : σ49 29 3 = σ35 29 3 := by first | exact o49 3 (by decide) | exact congrFun (f49 29 (by decide)) 3
      refine pe_aload_n d_M_forgetFirst_50 rfl ?_
      refine pe_getr f_M_32 d_M_forgetFirst_51 rfl rfl ?_
      refine pe_iload_n d_M_forgetFirst_54 rfl ?_
      refine pe_iconst d_M_forgetFirst_55 ?_
      refine pe_isub d_M_forgetFirst_56 ?_
      refine pe_aload_n d_M_forgetFirst_57 rfl ?_
      refine pe_getr f_M_32 d_M_forgetFirst_58 rfl rfl ?_
      refine pe_iload_n d_M_forgetFirst_61 rfl ?_
      refine pe_iald d_M_forgetFirst_62 rfl (by omega) (by omega) ?_
      refine pe_iastT d_M_forgetFirst_63 rfl (by omega) (by omega) hB (by first | exact hB _ _ | exact hB0 _ _ | exact hBt _ _ | exact ⟨by omega, by omega⟩) (fun σ63 hB e63 o63 f63 => ?_)
      try have u63_0 : σ63 29 1 = σ49 29 1 := by first | exact o63 1 (by decide) | exact congrFun (f63 29 (by decide)) 1
      try have u63_1 : σ63 29 2 = σ49 29 2 := by first | exact o63 2 (by decide) | exact congrFun (f63 29 (by decide)) 2
      try have u63_2 : σ63 29 3 = σ49 29 3 := by first | exact o63 3 (by decide) | exact congrFun (f63 29 (by decide)) 3
      have P32 : σ63 32 = σ21 32 := (f63 32 (by decide)).trans ((f49 32 (by decide)).trans ((f35 32 (by decide)).trans (rfl)))
      have Q32 : τ 32 = τ 32 := rfl
      have P33 : σ63 33 = σ35 33 := (f63 33 (by decide)).trans ((f49 33 (by decide)).trans (rfl))
      have Q33 : σ21 33 = τ 33 := (f21 33 (by decide)).trans (rfl)
      have P34 : σ63 34 = σ49 34 := (f63 34 (by decide)).trans (rfl)
      have Q34 : σ35 34 = τ 34 := (f35 34 (by decide)).trans ((f21 34 (by decide)).trans (rfl))
      have P35 : σ63 35 = σ63 35 := rfl
      have Q35 : σ49 35 = τ 35 := (f49 35 (by decide)).trans ((f35 35 (by decide)).trans ((f21 35 (by decide)).trans (rfl)))
      have hS : ((∀ j, 0 ≤ j → j < (k + 1) - 1 → σ63 32 j = σ 32 (j + 1)) ∧ (∀ j, (k + 1) - 1 ≤ j → σ63 32 j = σ 32 j) ∧ (∀ j, 0 ≤ j → j < (k + 1) - 1 → σ63 33 j = σ 33 (j + 1)) ∧ (∀ j, (k + 1) - 1 ≤ j → σ63 33 j = σ 33 j) ∧ (∀ j, 0 ≤ j → j < (k + 1) - 1 → σ63 34 j = σ 34 (j + 1)) ∧ (∀ j, (k + 1) - 1 ≤ j → σ63 34 j = σ 34 j) ∧ (∀ j, 0 ≤ j → j < (k + 1) - 1 → σ63 35 j = σ 35 (j + 1)) ∧ (∀ j, (k + 1) - 1 ≤ j → σ63 35 j = σ 35 j)) := by
        refine ⟨fun j h1 h2 => ?_, fun j h1 => ?_, fun j h1 h2 => ?_, fun j h1 => ?_, fun j h1 h2 => ?_, fun j h1 => ?_, fun j h1 h2 => ?_, fun j h1 => ?_⟩
        · rw [P32]
          by_cases e : j = k - 1
          · rw [e, e21, Q32, U32 k (by omega)]; congr 1; omega
          · rw [o21 j e, Q32]; exact L32 j h1 (by omega)
        · rw [P32, o21 j (by omega), Q32]; exact U32 j (by omega)
        · rw [P33]
          by_cases e : j = k - 1
          · rw [e, e35, Q33, U33 k (by omega)]; congr 1; omega
          · rw [o35 j e, Q33]; exact L33 j h1 (by omega)
        · rw [P33, o35 j (by omega), Q33]; exact U33 j (by omega)
        · rw [P34]
          by_cases e : j = k - 1
          · rw [e, e49, Q34, U34 k (by omega)]; congr 1; omega
          · rw [o49 j e, Q34]; exact L34 j h1 (by omega)
        · rw [P34, o49 j (by omega), Q34]; exact U34 j (by omega)
        · rw [P35]
          by_cases e : j = k - 1
          · rw [e, e63, Q35, U35 k (by omega)]; congr 1; omega
          · rw [o63 j e, Q35]; exact L35 j h1 (by omega)
        · rw [P35, o63 j (by omega), Q35]; exact U35 j (by omega)
      
      refine pe_iinc d_M_forgetFirst_64 rfl ?_
      refine pe_goto (t := 2) d_M_forgetFirst_67 ?_
      exact ih (_, _) ⟨hB, (fun b hb => (f63 b (by simp at hb ⊢; try omega)).trans ((f49 b (by simp at hb ⊢; try omega)).trans ((f35 b (by simp at hb ⊢; try omega)).trans ((f21 b (by simp at hb ⊢; try omega)).trans (hfr b (by simp at hb ⊢; try omega)))))), hS, by (try dsimp only); omega⟩ (by (try dsimp only); omega)
  refine pe_iconst d_M_forgetFirst_0 ?_
  refine pe_istore_n d_M_forgetFirst_1 ?_
  exact J2 (_, _) ⟨hB, (fun b hb => rfl), ⟨fun j h1 h2 => by (try dsimp only at *); omega, fun j h1 => rfl, fun j h1 h2 => by (try dsimp only at *); omega, fun j h1 => rfl, fun j h1 h2 => by (try dsimp only at *); omega, fun j h1 => rfl, fun j h1 h2 => by (try dsimp only at *); omega, fun j h1 => rfl⟩, by (try dsimp only); omega⟩
