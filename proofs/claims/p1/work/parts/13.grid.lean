theorem t_G_has_18 {σ : pe_H} {r c : Int} (hd : 1 ≤ σ 18 2 ∧ σ 18 2 ≤ 24 ∧ 1 ≤ σ 18 3 ∧ σ 18 3 ≤ 8) (hr : pe_R r) (hc : pe_R c) : pe_M m_G_has [pe_r 18, pe_i r, pe_i c] σ (pe_qp σ (fun z => (z = 0 ∨ z = 1) ∧ (z = 1 ↔ 0 ≤ r ∧ r < σ 18 3 ∧ 0 ≤ c ∧ c < σ 18 2))) := by
  refine pe_in0 (lv := [some (pe_r 18), some (pe_i r), some (pe_i c)]) ?_
  refine pe_iload_n d_G_has_0 rfl ?_
  refine pe_if_lt (t := 28) d_G_has_1 (by first | exact hB _ _ | exact hB0 _ _ | exact hBt _ _ | exact ⟨by omega, by omega⟩) (fun h1 => ?_) (fun h1 => ?_)
  · skip
    refine pe_iconst d_G_has_28 ?_
    refine pe_rz d_G_has_29 (by first | exact Or.inl rfl | exact Or.inr rfl | omega) ?_
    exact ⟨rfl, by (try dsimp only); omega⟩
  · skip
    refine pe_iload_n d_G_has_4 rfl ?_
    refine pe_aload_n d_G_has_5 rfl ?_
    refine pe_geti f_G_22 d_G_has_6 rfl rfl 3 rfl ?_
    refine pe_icmp_ge (t := 28) d_G_has_9 (by first | exact hB _ _ | exact hB0 _ _ | exact hBt _ _ | exact ⟨by omega, by omega⟩) (by first | exact hB _ _ | exact hB0 _ _ | exact hBt _ _ | exact ⟨by omega, by omega⟩) (fun h9 => ?_) (fun h9 => ?_)
    · skip
      refine pe_iconst d_G_has_28 ?_
      refine pe_rz d_G_has_29 (by first | exact Or.inl rfl | exact Or.inr rfl | omega) ?_
      exact ⟨rfl, by (try dsimp only); omega⟩
    · skip
      refine pe_iload_n d_G_has_12 rfl ?_
      refine pe_if_lt (t := 28) d_G_has_13 (by first | exact hB _ _ | exact hB0 _ _ | exact hBt _ _ | exact ⟨by omega, by omega⟩) (fun h13 => ?_) (fun h13 => ?_)
      · skip
        refine pe_iconst d_G_has_28 ?_
        refine pe_rz d_G_has_29 (by first | exact Or.inl rfl | exact Or.inr rfl | omega) ?_
        exact ⟨rfl, by (try dsimp only); omega⟩
      · skip
        refine pe_iload_n d_G_has_16 rfl ?_
        refine pe_aload_n d_G_has_17 rfl ?_
        refine pe_geti f_G_18 d_G_has_18 rfl rfl 2 rfl ?_
        refine pe_icmp_ge (t := 28) d_G_has_21 (by first | exact hB _ _ | exact hB0 _ _ | exact hBt _ _ | exact ⟨by omega, by omega⟩) (by first | exact hB _ _ | exact hB0 _ _ | exact hBt _ _ | exact ⟨by omega, by omega⟩) (fun h21 => ?_) (fun h21 => ?_)
        · skip
          refine pe_iconst d_G_has_28 ?_
          refine pe_rz d_G_has_29 (by first | exact Or.inl rfl | exact Or.inr rfl | omega) ?_
          exact ⟨rfl, by (try dsimp only); omega⟩
        · skip
          refine pe_iconst d_G_has_24 ?_
          refine pe_goto (t := 29) d_G_has_25 ?_
          refine pe_rz d_G_has_29 (by first | exact Or.inl rfl | exact Or.inr rfl | omega) ?_
          exact ⟨rfl, by (try dsimp only); omega⟩
theorem t_G_clusterAt_18 {σ : pe_H} {r c : Int} (hB : pe_B σ) (hd : 1 ≤ σ 18 2 ∧ σ 18 2 ≤ 24 ∧ 1 ≤ σ 18 3 ∧ σ 18 3 ≤ 8) (hr : pe_R r) (hc : pe_R c) : pe_M m_G_clusterAt [pe_r 18, pe_i r, pe_i c] σ (pe_qp σ (fun z => pe_R z)) := by
  refine pe_in0 (lv := [some (pe_r 18), some (pe_i r), some (pe_i c)]) ?_
  have hB0 := hB
  refine pe_aload_n d_G_clusterAt_0 rfl ?_
  refine pe_iload_n d_G_clusterAt_1 rfl ?_
  refine pe_iload_n d_G_clusterAt_2 rfl ?_
  refine pe_v2p d_G_clusterAt_3 c_G_31 i_G_has s_G_has rfl rfl (t_G_has_18 (by omega) (by first | exact hB _ _ | exact hB0 _ _ | exact hBt _ _ | exact ⟨by omega, by omega⟩) (by first | exact hB _ _ | exact hB0 _ _ | exact hBt _ _ | exact ⟨by omega, by omega⟩)) (fun z3 hz3 => ?_)
  refine pe_if_eq (t := 23) d_G_clusterAt_6 (by first | exact hB _ _ | exact hB0 _ _ | exact hBt _ _ | exact ⟨by omega, by omega⟩) (fun h6 => ?_) (fun h6 => ?_)
  · skip
    refine pe_iconst d_G_clusterAt_23 ?_
    refine pe_ri d_G_clusterAt_24 ?_
    exact ⟨rfl, by first | exact hB _ _ | exact ⟨by omega, by omega⟩⟩
  · skip
    refine pe_aload_n d_G_clusterAt_9 rfl ?_
    refine pe_getr f_G_9 d_G_clusterAt_10 rfl rfl ?_
    refine pe_iload_n d_G_clusterAt_13 rfl ?_
    refine pe_bipush d_G_clusterAt_14 ?_
    refine pe_imul d_G_clusterAt_16 ?_
    refine pe_iload_n d_G_clusterAt_17 rfl ?_
    refine pe_iadd d_G_clusterAt_18 ?_
    refine pe_iald d_G_clusterAt_19 rfl (by omega) (by omega) ?_
    refine pe_goto (t := 24) d_G_clusterAt_20 ?_
    refine pe_ri d_G_clusterAt_24 ?_
    exact ⟨rfl, by first | exact hB _ _ | exact ⟨by omega, by omega⟩⟩
theorem t_G_lookAt_18 {σ : pe_H} {r c : Int} (hB : pe_B σ) (hd : 1 ≤ σ 18 2 ∧ σ 18 2 ≤ 24 ∧ 1 ≤ σ 18 3 ∧ σ 18 3 ≤ 8) (hr : pe_R r) (hc : pe_R c) : pe_M m_G_lookAt [pe_r 18, pe_i r, pe_i c] σ (pe_qp σ (fun z => pe_R z)) := by
  refine pe_in0 (lv := [some (pe_r 18), some (pe_i r), some (pe_i c)]) ?_
  have hB0 := hB
  refine pe_aload_n d_G_lookAt_0 rfl ?_
  refine pe_iload_n d_G_lookAt_1 rfl ?_
  refine pe_iload_n d_G_lookAt_2 rfl ?_
  refine pe_v2p d_G_lookAt_3 c_G_31 i_G_has s_G_has rfl rfl (t_G_has_18 (by omega) (by first | exact hB _ _ | exact hB0 _ _ | exact hBt _ _ | exact ⟨by omega, by omega⟩) (by first | exact hB _ _ | exact hB0 _ _ | exact hBt _ _ | exact ⟨by omega, by omega⟩)) (fun z3 hz3 => ?_)
  refine pe_if_eq (t := 23) d_G_lookAt_6 (by first | exact hB _ _ | exact hB0 _ _ | exact hBt _ _ | exact ⟨by omega, by omega⟩) (fun h6 => ?_) (fun h6 => ?_)
  · skip
    refine pe_iconst d_G_lookAt_23 ?_
    refine pe_ri d_G_lookAt_24 ?_
    exact ⟨rfl, by first | exact hB _ _ | exact ⟨by omega, by omega⟩⟩
  · skip
    refine pe_aload_n d_G_lookAt_9 rfl ?_
    refine pe_getr f_G_15 d_G_lookAt_10 rfl rfl ?_
    refine pe_iload_n d_G_lookAt_13 rfl ?_
    refine pe_bipush d_G_lookAt_14 ?_
    refine pe_imul d_G_lookAt_16 ?_
    refine pe_iload_n d_G_lookAt_17 rfl ?_
    refine pe_iadd d_G_lookAt_18 ?_
    refine pe_iald d_G_lookAt_19 rfl (by omega) (by omega) ?_
    refine pe_goto (t := 24) d_G_lookAt_20 ?_
    refine pe_ri d_G_lookAt_24 ?_
    exact ⟨rfl, by first | exact hB _ _ | exact ⟨by omega, by omega⟩⟩
theorem t_G_put_18 {σ : pe_H} {r c u w : Int} (hB : pe_B σ) (hd : 1 ≤ σ 18 2 ∧ σ 18 2 ≤ 24 ∧ 1 ≤ σ 18 3 ∧ σ 18 3 ≤ 8) (hr : pe_R r) (hc : pe_R c) (hu : pe_R u) (hw : pe_R w) : pe_M m_G_put [pe_r 18, pe_i r, pe_i c, pe_i u, pe_i w] σ (pe_qv (fun σ' => pe_B σ' ∧ ∀ b, b ∉ [19, 20] → σ' b = σ b)) := by
  refine pe_in0 (lv := [some (pe_r 18), some (pe_i r), some (pe_i c), some (pe_i u), some (pe_i w)]) ?_
  have hB0 := hB
  refine pe_aload_n d_G_put_0 rfl ?_
  refine pe_iload_n d_G_put_1 rfl ?_
  refine pe_iload_n d_G_put_2 rfl ?_
  refine pe_v2p d_G_put_3 c_G_31 i_G_has s_G_has rfl rfl (t_G_has_18 (by omega) (by first | exact hB _ _ | exact hB0 _ _ | exact hBt _ _ | exact ⟨by omega, by omega⟩) (by first | exact hB _ _ | exact hB0 _ _ | exact hBt _ _ | exact ⟨by omega, by omega⟩)) (fun z3 hz3 => ?_)
  refine pe_if_eq (t := 34) d_G_put_6 (by first | exact hB _ _ | exact hB0 _ _ | exact hBt _ _ | exact ⟨by omega, by omega⟩) (fun h6 => ?_) (fun h6 => ?_)
  · skip
    refine pe_rv d_G_put_34 ?_
    exact ⟨hB, (fun b hb => rfl)⟩
  · skip
    refine pe_aload_n d_G_put_9 rfl ?_
    refine pe_getr f_G_9 d_G_put_10 rfl rfl ?_
    refine pe_iload_n d_G_put_13 rfl ?_
    refine pe_bipush d_G_put_14 ?_
    refine pe_imul d_G_put_16 ?_
    refine pe_iload_n d_G_put_17 rfl ?_
    refine pe_iadd d_G_put_18 ?_
    refine pe_iload_n d_G_put_19 rfl ?_
    refine pe_iastT d_G_put_20 rfl (by omega) (by omega) hB (by first | exact hB _ _ | exact hB0 _ _ | exact hBt _ _ | exact ⟨by omega, by omega⟩) (fun σ20 hB e20 o20 f20 => ?_)
    refine pe_aload_n d_G_put_21 rfl ?_
    refine pe_getr f_G_15 d_G_put_22 rfl rfl ?_
    refine pe_iload_n d_G_put_25 rfl ?_
    refine pe_bipush d_G_put_26 ?_
    refine pe_imul d_G_put_28 ?_
    refine pe_iload_n d_G_put_29 rfl ?_
    refine pe_iadd d_G_put_30 ?_
    refine pe_iload d_G_put_31 rfl ?_
    refine pe_iastT d_G_put_33 rfl (by omega) (by omega) hB (by first | exact hB _ _ | exact hB0 _ _ | exact hBt _ _ | exact ⟨by omega, by omega⟩) (fun σ33 hB e33 o33 f33 => ?_)
    refine pe_rv d_G_put_34 ?_
    exact ⟨hB, (fun b hb => (f33 b (by simp at hb ⊢; try omega)).trans ((f20 b (by simp at hb ⊢; try omega)).trans (rfl)))⟩
theorem t_G_isBlank_18 {σ : pe_H} {r c : Int} (hB : pe_B σ) (hd : 1 ≤ σ 18 2 ∧ σ 18 2 ≤ 24 ∧ 1 ≤ σ 18 3 ∧ σ 18 3 ≤ 8) (hr : pe_R r) (hc : pe_R c) : pe_M m_G_isBlank [pe_r 18, pe_i r, pe_i c] σ (pe_qp σ (fun z => z = 0 ∨ z = 1)) := by
  refine pe_in0 (lv := [some (pe_r 18), some (pe_i r), some (pe_i c)]) ?_
  have hB0 := hB
  refine pe_aload_n d_G_isBlank_0 rfl ?_
  refine pe_iload_n d_G_isBlank_1 rfl ?_
  refine pe_iload_n d_G_isBlank_2 rfl ?_
  refine pe_v2p d_G_isBlank_3 c_G_35 i_G_clusterAt s_G_clusterAt rfl rfl (t_G_clusterAt_18 hB (by omega) (by first | exact hB _ _ | exact hB0 _ _ | exact hBt _ _ | exact ⟨by omega, by omega⟩) (by first | exact hB _ _ | exact hB0 _ _ | exact hBt _ _ | exact ⟨by omega, by omega⟩)) (fun z3 hz3 => ?_)
  refine pe_bipush d_G_isBlank_6 ?_
  refine pe_icmp_ne (t := 24) d_G_isBlank_8 (by first | exact hB _ _ | exact hB0 _ _ | exact hBt _ _ | exact ⟨by omega, by omega⟩) (by first | exact hB _ _ | exact hB0 _ _ | exact hBt _ _ | exact ⟨by omega, by omega⟩) (fun h8 => ?_) (fun h8 => ?_)
  · skip
    refine pe_iconst d_G_isBlank_24 ?_
    refine pe_rz d_G_isBlank_25 (by first | exact Or.inl rfl | exact Or.inr rfl | omega) ?_
    exact ⟨rfl, by (try dsimp only); omega⟩
  · skip
    refine pe_aload_n d_G_isBlank_11 rfl ?_
    refine pe_iload_n d_G_isBlank_12 rfl ?_
    refine pe_iload_n d_G_isBlank_13 rfl ?_
    refine pe_v2p d_G_isBlank_14 c_G_39 i_G_lookAt s_G_lookAt rfl rfl (t_G_lookAt_18 hB (by omega) (by first | exact hB _ _ | exact hB0 _ _ | exact hBt _ _ | exact ⟨by omega, by omega⟩) (by first | exact hB _ _ | exact hB0 _ _ | exact hBt _ _ | exact ⟨by omega, by omega⟩)) (fun z14 hz14 => ?_)
    refine pe_if_ne (t := 24) d_G_isBlank_17 (by first | exact hB _ _ | exact hB0 _ _ | exact hBt _ _ | exact ⟨by omega, by omega⟩) (fun h17 => ?_) (fun h17 => ?_)
    · skip
      refine pe_iconst d_G_isBlank_24 ?_
      refine pe_rz d_G_isBlank_25 (by first | exact Or.inl rfl | exact Or.inr rfl | omega) ?_
      exact ⟨rfl, by (try dsimp only); omega⟩
    · skip
      refine pe_iconst d_G_isBlank_20 ?_
      refine pe_goto (t := 25) d_G_isBlank_21 ?_
      refine pe_rz d_G_isBlank_25 (by first | exact Or.inl rfl | exact Or.inr rfl | omega) ?_
      exact ⟨rfl, by (try dsimp only); omega⟩
theorem t_G_isWideAt_18 {σ : pe_H} {r c : Int} (hB : pe_B σ) (hd : 1 ≤ σ 18 2 ∧ σ 18 2 ≤ 24 ∧ 1 ≤ σ 18 3 ∧ σ 18 3 ≤ 8) (hr : pe_R r) (hc : pe_R c) : pe_M m_G_isWideAt [pe_r 18, pe_i r, pe_i c] σ (pe_qp σ (fun z => z = 0 ∨ z = 1)) := by
  refine pe_in0 (lv := [some (pe_r 18), some (pe_i r), some (pe_i c)]) ?_
  have hB0 := hB
  refine pe_aload_n d_G_isWideAt_0 rfl ?_
  refine pe_iload_n d_G_isWideAt_1 rfl ?_
  refine pe_iload_n d_G_isWideAt_2 rfl ?_
  refine pe_v2p d_G_isWideAt_3 c_G_31 i_G_has s_G_has rfl rfl (t_G_has_18 (by omega) (by first | exact hB _ _ | exact hB0 _ _ | exact hBt _ _ | exact ⟨by omega, by omega⟩) (by first | exact hB _ _ | exact hB0 _ _ | exact hBt _ _ | exact ⟨by omega, by omega⟩)) (fun z3 hz3 => ?_)
  refine pe_if_eq (t := 28) d_G_isWideAt_6 (by first | exact hB _ _ | exact hB0 _ _ | exact hBt _ _ | exact ⟨by omega, by omega⟩) (fun h6 => ?_) (fun h6 => ?_)
  · skip
    refine pe_iconst d_G_isWideAt_28 ?_
    refine pe_rz d_G_isWideAt_29 (by first | exact Or.inl rfl | exact Or.inr rfl | omega) ?_
    exact ⟨rfl, by (try dsimp only); omega⟩
  · skip
    refine pe_aload_n d_G_isWideAt_9 rfl ?_
    refine pe_iload_n d_G_isWideAt_10 rfl ?_
    refine pe_iload_n d_G_isWideAt_11 rfl ?_
    refine pe_v2p d_G_isWideAt_12 c_G_35 i_G_clusterAt s_G_clusterAt rfl rfl (t_G_clusterAt_18 hB (by omega) (by first | exact hB _ _ | exact hB0 _ _ | exact hBt _ _ | exact ⟨by omega, by omega⟩) (by first | exact hB _ _ | exact hB0 _ _ | exact hBt _ _ | exact ⟨by omega, by omega⟩)) (fun z12 hz12 => ?_)
    refine pe_s1p d_G_isWideAt_15 c_G_42 z_C_characterOf (t_C_characterOf (by first | exact hB _ _ | exact hB0 _ _ | exact hBt _ _ | exact ⟨by omega, by omega⟩)) (fun z15 hz15 => ?_)
    have hT15 : -65536 < z15 ∧ z15 < 65536 := by rw [hz15]; exact pe_tm _ (by omega)
    refine pe_s1p d_G_isWideAt_18 c_G_48 z_C_isWide (t_C_isWide (by first | exact hB _ _ | exact hB0 _ _ | exact hBt _ _ | exact ⟨by omega, by omega⟩)) (fun z18 hz18 => ?_)
    refine pe_if_eq (t := 28) d_G_isWideAt_21 (by first | exact hB _ _ | exact hB0 _ _ | exact hBt _ _ | exact ⟨by omega, by omega⟩) (fun h21 => ?_) (fun h21 => ?_)
    · skip
      refine pe_iconst d_G_isWideAt_28 ?_
      refine pe_rz d_G_isWideAt_29 (by first | exact Or.inl rfl | exact Or.inr rfl | omega) ?_
      exact ⟨rfl, by (try dsimp only); omega⟩
    · skip
      refine pe_iconst d_G_isWideAt_24 ?_
      refine pe_goto (t := 29) d_G_isWideAt_25 ?_
      refine pe_rz d_G_isWideAt_29 (by first | exact Or.inl rfl | exact Or.inr rfl | omega) ?_
      exact ⟨rfl, by (try dsimp only); omega⟩
theorem t_G_blankFrom_18 {σ : pe_H} {r c : Int} (hB : pe_B σ) (hd : 1 ≤ σ 18 2 ∧ σ 18 2 ≤ 24 ∧ 1 ≤ σ 18 3 ∧ σ 18 3 ≤ 8) (hr : -100 ≤ r ∧ r ≤ 100) (hc : -100 ≤ c ∧ c ≤ 100) : pe_M m_G_blankFrom [pe_r 18, pe_i r, pe_i c] σ (pe_qv (fun σ' => pe_B σ' ∧ ∀ b, b ∉ [19, 20] → σ' b = σ b)) := by
  refine pe_in0 (lv := [some (pe_r 18), some (pe_i r), some (pe_i c), none]) ?_
  have hB0 := hB
  have J2 : ∀ fs : Int × pe_H, ((-100 ≤ fs.1 ∧ fs.1 ≤ 200) ∧ pe_B fs.2 ∧ ∀ b, b ∉ [19, 20] → fs.2 b = σ b) → pe_G m_G_blankFrom 2 [some (pe_r 18), some (pe_i r), some (pe_i c), some (pe_i fs.1)] [] fs.2 (pe_qv (fun σ' => pe_B σ' ∧ ∀ b, b ∉ [19, 20] → σ' b = σ b)) := by
    refine pe_loop (fun fs : Int × pe_H => (300 - fs.1).toNat) _ _ ?_
    intro fs hI ih
    obtain ⟨f, τ⟩ := fs
    dsimp only at hI ⊢
    obtain ⟨hI1, hB, hfr⟩ := hI
    rw [← hfr 18 (by decide)] at hd
    have hBt := hB
    refine pe_iload_n d_G_blankFrom_2 rfl ?_
    refine pe_aload_n d_G_blankFrom_3 rfl ?_
    refine pe_geti f_G_18 d_G_blankFrom_4 rfl rfl 2 rfl ?_
    refine pe_icmp_ge (t := 25) d_G_blankFrom_7 (by first | exact hB _ _ | exact hB0 _ _ | exact hBt _ _ | exact ⟨by omega, by omega⟩) (by first | exact hB _ _ | exact hB0 _ _ | exact hBt _ _ | exact ⟨by omega, by omega⟩) (fun h7 => ?_) (fun h7 => ?_)
    · skip
      refine pe_rv d_G_blankFrom_25 ?_
      exact ⟨hB, hfr⟩
    · skip
      refine pe_aload_n d_G_blankFrom_10 rfl ?_
      refine pe_iload_n d_G_blankFrom_11 rfl ?_
      refine pe_iload_n d_G_blankFrom_12 rfl ?_
      refine pe_bipush d_G_blankFrom_13 ?_
      refine pe_iconst d_G_blankFrom_15 ?_
      refine pe_v4v d_G_blankFrom_16 c_G_52 i_G_put s_G_put rfl rfl (t_G_put_18 hB (by omega) (by first | exact hB _ _ | exact hB0 _ _ | exact hBt _ _ | exact ⟨by omega, by omega⟩) (by first | exact hB _ _ | exact hB0 _ _ | exact hBt _ _ | exact ⟨by omega, by omega⟩) (by first | exact hB _ _ | exact hB0 _ _ | exact hBt _ _ | exact ⟨by omega, by omega⟩) (by first | exact hB _ _ | exact hB0 _ _ | exact hBt _ _ | exact ⟨by omega, by omega⟩)) (fun σ16 hz16 => ?_)
      obtain ⟨hB, f16⟩ := hz16
      try have u16_0 : σ16 18 2 = τ 18 2 := by first | exact o16 2 (by decide) | exact congrFun (f16 18 (by decide)) 2
      try have u16_1 : σ16 18 3 = τ 18 3 := by first | exact o16 3 (by decide) | exact congrFun (f16 18 (by decide)) 3
      refine pe_iinc d_G_blankFrom_19 rfl ?_
      refine pe_goto (t := 2) d_G_blankFrom_22 ?_
      exact ih (_, _) ⟨by (try dsimp only); omega, hB, (fun b hb => (f16 b (by simp at hb ⊢; try omega)).trans (hfr b hb))⟩ (by (try dsimp only); omega)
  refine pe_iload_n d_G_blankFrom_0 rfl ?_
  refine pe_istore_n d_G_blankFrom_1 ?_
  exact J2 (_, _) ⟨by (try dsimp only); omega, hB, fun _ _ => rfl⟩
theorem t_A_fill_19 {σ : pe_H} {v : Int} (hB : pe_B σ) (hv : pe_R v) : pe_M m_A_fill [pe_r 19, pe_i v] σ (pe_qv (fun σ' => pe_B σ' ∧ ∀ b, b ∉ [19] → σ' b = σ b)) := by
  refine pe_in0 (lv := [some (pe_r 19), some (pe_i v), none, none]) ?_
  have hB0 := hB
  have J5 : ∀ fs : Int × pe_H, ((0 ≤ fs.1 ∧ fs.1 ≤ 192) ∧ pe_B fs.2 ∧ ∀ b, b ∉ [19] → fs.2 b = σ b) → pe_G m_A_fill 5 [some (pe_r 19), some (pe_i v), some (pe_i fs.1), some (pe_i 192)] [] fs.2 (pe_qv (fun σ' => pe_B σ' ∧ ∀ b, b ∉ [19] → σ' b = σ b)) := by
    refine pe_loop (fun fs : Int × pe_H => (300 - fs.1).toNat) _ _ ?_
    intro fs hI ih
    obtain ⟨f, τ⟩ := fs
    dsimp only at hI ⊢
    obtain ⟨hI1, hB, hfr⟩ := hI
    have hBt := hB
    refine pe_iload_n d_A_fill_5 rfl ?_
    refine pe_iload_n d_A_fill_6 rfl ?_
    refine pe_icmp_ge (t := 20) d_A_fill_7 (by first | exact hB _ _ | exact hB0 _ _ | exact hBt _ _ | exact ⟨by omega, by omega⟩) (by first | exact hB _ _ | exact hB0 _ _ | exact hBt _ _ | exact ⟨by omega, by omega⟩) (fun h7 => ?_) (fun h7 => ?_)
    · skip
      refine pe_rv d_A_fill_20 ?_
      exact ⟨hB, hfr⟩
    · skip
      refine pe_aload_n d_A_fill_10 rfl ?_
      refine pe_iload_n d_A_fill_11 rfl ?_
      refine pe_iload_n d_A_fill_12 rfl ?_
      refine pe_iastT d_A_fill_13 rfl (by omega) (by omega) hB (by first | exact hB _ _ | exact hB0 _ _ | exact hBt _ _ | exact ⟨by omega, by omega⟩) (fun σ13 hB e13 o13 f13 => ?_)
      refine pe_iinc d_A_fill_14 rfl ?_
      refine pe_goto (t := 5) d_A_fill_17 ?_
      exact ih (_, _) ⟨by (try dsimp only); omega, hB, (fun b hb => (f13 b (by simp at hb ⊢; try omega)).trans (hfr b hb))⟩ (by (try dsimp only); omega)
  refine pe_iconst d_A_fill_0 ?_
  refine pe_istore_n d_A_fill_1 ?_
  refine pe_aload_n d_A_fill_2 rfl ?_
  refine pe_alen (t0 := 0) d_A_fill_3 rfl (fun _ => rfl) ?_
  refine pe_istore_n d_A_fill_4 ?_
  exact J5 (_, _) ⟨by (try dsimp only); omega, hB, fun _ _ => rfl⟩
theorem t_A_fill_20 {σ : pe_H} {v : Int} (hB : pe_B σ) (hv : pe_R v) : pe_M m_A_fill [pe_r 20, pe_i v] σ (pe_qv (fun σ' => pe_B σ' ∧ ∀ b, b ∉ [20] → σ' b = σ b)) := by
  refine pe_in0 (lv := [some (pe_r 20), some (pe_i v), none, none]) ?_
  have hB0 := hB
  have J5 : ∀ fs : Int × pe_H, ((0 ≤ fs.1 ∧ fs.1 ≤ 192) ∧ pe_B fs.2 ∧ ∀ b, b ∉ [20] → fs.2 b = σ b) → pe_G m_A_fill 5 [some (pe_r 20), some (pe_i v), some (pe_i fs.1), some (pe_i 192)] [] fs.2 (pe_qv (fun σ' => pe_B σ' ∧ ∀ b, b ∉ [20] → σ' b = σ b)) := by
    refine pe_loop (fun fs : Int × pe_H => (300 - fs.1).toNat) _ _ ?_
    intro fs hI ih
    obtain ⟨f, τ⟩ := fs
    dsimp only at hI ⊢
    obtain ⟨hI1, hB, hfr⟩ := hI
    have hBt := hB
    refine pe_iload_n d_A_fill_5 rfl ?_
    refine pe_iload_n d_A_fill_6 rfl ?_
    refine pe_icmp_ge (t := 20) d_A_fill_7 (by first | exact hB _ _ | exact hB0 _ _ | exact hBt _ _ | exact ⟨by omega, by omega⟩) (by first | exact hB _ _ | exact hB0 _ _ | exact hBt _ _ | exact ⟨by omega, by omega⟩) (fun h7 => ?_) (fun h7 => ?_)
    · skip
      refine pe_rv d_A_fill_20 ?_
      exact ⟨hB, hfr⟩
    · skip
      refine pe_aload_n d_A_fill_10 rfl ?_
      refine pe_iload_n d_A_fill_11 rfl ?_
      refine pe_iload_n d_A_fill_12 rfl ?_
      refine pe_iastT d_A_fill_13 rfl (by omega) (by omega) hB (by first | exact hB _ _ | exact hB0 _ _ | exact hBt _ _ | exact ⟨by omega, by omega⟩) (fun σ13 hB e13 o13 f13 => ?_)
      refine pe_iinc d_A_fill_14 rfl ?_
      refine pe_goto (t := 5) d_A_fill_17 ?_
      exact ih (_, _) ⟨by (try dsimp only); omega, hB, (fun b hb => (f13 b (by simp at hb ⊢; try omega)).trans (hfr b hb))⟩ (by (try dsimp only); omega)
  refine pe_iconst d_A_fill_0 ?_
  refine pe_istore_n d_A_fill_1 ?_
  refine pe_aload_n d_A_fill_2 rfl ?_
  refine pe_alen (t0 := 0) d_A_fill_3 rfl (fun _ => rfl) ?_
  refine pe_istore_n d_A_fill_4 ?_
  exact J5 (_, _) ⟨by (try dsimp only); omega, hB, fun _ _ => rfl⟩
theorem t_G_blankAll_18 {σ : pe_H} (hB : pe_B σ) : pe_M m_G_blankAll [pe_r 18] σ (pe_qv (fun σ' => pe_B σ' ∧ ∀ b, b ∉ [19, 20] → σ' b = σ b)) := by
  refine pe_in0 (lv := [some (pe_r 18)]) ?_
  have hB0 := hB
  refine pe_aload_n d_G_blankAll_0 rfl ?_
  refine pe_getr f_G_9 d_G_blankAll_1 rfl rfl ?_
  refine pe_bipush d_G_blankAll_4 ?_
  refine pe_s2v d_G_blankAll_6 c_G_25 z_A_fill (t_A_fill_19 hB (by first | exact hB _ _ | exact hB0 _ _ | exact hBt _ _ | exact ⟨by omega, by omega⟩)) (fun σ6 hz6 => ?_)
  obtain ⟨hB, f6⟩ := hz6
  refine pe_aload_n d_G_blankAll_9 rfl ?_
  refine pe_getr f_G_15 d_G_blankAll_10 rfl rfl ?_
  refine pe_iconst d_G_blankAll_13 ?_
  refine pe_s2v d_G_blankAll_14 c_G_25 z_A_fill (t_A_fill_20 hB (by first | exact hB _ _ | exact hB0 _ _ | exact hBt _ _ | exact ⟨by omega, by omega⟩)) (fun σ14 hz14 => ?_)
  obtain ⟨hB, f14⟩ := hz14
  refine pe_rv d_G_blankAll_17 ?_
  exact ⟨hB, (fun b hb => (f14 b (by simp at hb ⊢; try omega)).trans ((f6 b (by simp at hb ⊢; try omega)).trans (rfl)))⟩
theorem t_G_resize_18 {σ : pe_H} {r c : Int} (hB : pe_B σ) (hd : 1 ≤ σ 18 2 ∧ σ 18 2 ≤ 24 ∧ 1 ≤ σ 18 3 ∧ σ 18 3 ≤ 8) (hc : 1 ≤ c ∧ c ≤ 24) (hr : 1 ≤ r ∧ r ≤ 8) : pe_M m_G_resize [pe_r 18, pe_i c, pe_i r] σ (pe_qv (fun σ' => pe_B σ' ∧ (∀ b, b ∉ [18, 19, 20] → σ' b = σ b) ∧ σ' 18 2 = c ∧ σ' 18 3 = r)) := by
  refine pe_in0 (lv := [some (pe_r 18), some (pe_i c), some (pe_i r), none]) ?_
  have hB0 := hB
  have J2 : ∀ fs : Int × pe_H, ((0 ≤ fs.1 ∧ fs.1 ≤ 8) ∧ pe_B fs.2 ∧ ∀ b, b ∉ [19, 20] → fs.2 b = σ b) → pe_G m_G_resize 2 [some (pe_r 18), some (pe_i c), some (pe_i r), some (pe_i fs.1)] [] fs.2 (pe_qv (fun σ' => pe_B σ' ∧ (∀ b, b ∉ [18, 19, 20] → σ' b = σ b) ∧ σ' 18 2 = c ∧ σ' 18 3 = r)) := by
    refine pe_loop (fun fs : Int × pe_H => (300 - fs.1).toNat) _ _ ?_
    intro fs hI ih
    obtain ⟨f, τ⟩ := fs
    dsimp only at hI ⊢
    obtain ⟨hI1, hB, hfr⟩ := hI
    rw [← hfr 18 (by decide)] at hd
    have hBt := hB
    refine pe_iload_n d_G_resize_2 rfl ?_
    refine pe_aload_n d_G_resize_3 rfl ?_
    refine pe_geti f_G_22 d_G_resize_4 rfl rfl 3 rfl ?_
    refine pe_icmp_ge (t := 53) d_G_resize_7 (by first | exact hB _ _ | exact hB0 _ _ | exact hBt _ _ | exact ⟨by omega, by omega⟩) (by first | exact hB _ _ | exact hB0 _ _ | exact hBt _ _ | exact ⟨by omega, by omega⟩) (fun h7 => ?_) (fun h7 => ?_)
    · skip
      refine pe_aload_n d_G_resize_53 rfl ?_
      refine pe_iload_n d_G_resize_54 rfl ?_
      refine pe_putiT f_G_18 g_7_2 d_G_resize_55 rfl rfl 2 rfl hB (by first | exact hB _ _ | exact hB0 _ _ | exact hBt _ _ | exact ⟨by omega, by omega⟩) (fun σ55 hB e55 o55 f55 => ?_)
      try have u55_0 : σ55 18 2 = τ 18 2 := by first | exact o55 2 (by decide) | exact congrFun (f55 18 (by decide)) 2
      try have u55_1 : σ55 18 3 = τ 18 3 := by first | exact o55 3 (by decide) | exact congrFun (f55 18 (by decide)) 3
      refine pe_aload_n d_G_resize_58 rfl ?_
      refine pe_iload_n d_G_resize_59 rfl ?_
      refine pe_putiT f_G_22 g_7_3 d_G_resize_60 rfl rfl 3 rfl hB (by first | exact hB _ _ | exact hB0 _ _ | exact hBt _ _ | exact ⟨by omega, by omega⟩) (fun σ60 hB e60 o60 f60 => ?_)
      try have u60_0 : σ60 18 2 = σ55 18 2 := by first | exact o60 2 (by decide) | exact congrFun (f60 18 (by decide)) 2
      try have u60_1 : σ60 18 3 = σ55 18 3 := by first | exact o60 3 (by decide) | exact congrFun (f60 18 (by decide)) 3
      refine pe_rv d_G_resize_63 ?_
      exact ⟨hB, (fun b hb => (f60 b (by simp at hb ⊢; try omega)).trans ((f55 b (by simp at hb ⊢; try omega)).trans (hfr b (by simp at hb ⊢; try omega)))), by omega, by omega⟩
    · skip
      refine pe_aload_n d_G_resize_10 rfl ?_
      refine pe_iload_n d_G_resize_11 rfl ?_
      refine pe_iload_n d_G_resize_12 rfl ?_
      refine pe_iload_n d_G_resize_13 rfl ?_
      refine pe_icmp_ge (t := 21) d_G_resize_14 (by first | exact hB _ _ | exact hB0 _ _ | exact hBt _ _ | exact ⟨by omega, by omega⟩) (by first | exact hB _ _ | exact hB0 _ _ | exact hBt _ _ | exact ⟨by omega, by omega⟩) (fun h14 => ?_) (fun h14 => ?_)
      · skip
        refine pe_iconst d_G_resize_21 ?_
        refine pe_v2v d_G_resize_22 c_G_56 i_G_blankFrom s_G_blankFrom rfl rfl (t_G_blankFrom_18 hB (by omega) (by omega) (by omega)) (fun σ22 hz22 => ?_)
        obtain ⟨hB, f22⟩ := hz22
        try have u22_0 : σ22 18 2 = τ 18 2 := by first | exact o22 2 (by decide) | exact congrFun (f22 18 (by decide)) 2
        try have u22_1 : σ22 18 3 = τ 18 3 := by first | exact o22 3 (by decide) | exact congrFun (f22 18 (by decide)) 3
        have hd : 1 ≤ σ22 18 2 ∧ σ22 18 2 ≤ 24 ∧ 1 ≤ σ22 18 3 ∧ σ22 18 3 ≤ 8 := by omega
        refine pe_aload_n d_G_resize_25 rfl ?_
        refine pe_iload_n d_G_resize_26 rfl ?_
        refine pe_iload_n d_G_resize_27 rfl ?_
        refine pe_iconst d_G_resize_28 ?_
        refine pe_isub d_G_resize_29 ?_
        refine pe_v2p d_G_resize_30 c_G_60 i_G_isWideAt s_G_isWideAt rfl rfl (t_G_isWideAt_18 hB (by omega) (by first | exact hB _ _ | exact hB0 _ _ | exact hBt _ _ | exact ⟨by omega, by omega⟩) (by first | exact hB _ _ | exact hB0 _ _ | exact hBt _ _ | exact ⟨by omega, by omega⟩)) (fun z30 hz30 => ?_)
        refine pe_if_eq (t := 47) d_G_resize_33 (by first | exact hB _ _ | exact hB0 _ _ | exact hBt _ _ | exact ⟨by omega, by omega⟩) (fun h33 => ?_) (fun h33 => ?_)
        · skip
          refine pe_iinc d_G_resize_47 rfl ?_
          refine pe_goto (t := 2) d_G_resize_50 ?_
          exact ih (_, _) ⟨by (try dsimp only); omega, hB, (fun b hb => (f22 b (by simp at hb ⊢; try omega)).trans (hfr b (by simp at hb ⊢; try omega)))⟩ (by (try dsimp only); omega)
        · skip
          refine pe_aload_n d_G_resize_36 rfl ?_
          refine pe_iload_n d_G_resize_37 rfl ?_
          refine pe_iload_n d_G_resize_38 rfl ?_
          refine pe_iconst d_G_resize_39 ?_
          refine pe_isub d_G_resize_40 ?_
          refine pe_bipush d_G_resize_41 ?_
          refine pe_iconst d_G_resize_43 ?_
          refine pe_v4v d_G_resize_44 c_G_52 i_G_put s_G_put rfl rfl (t_G_put_18 hB (by omega) (by first | exact hB _ _ | exact hB0 _ _ | exact hBt _ _ | exact ⟨by omega, by omega⟩) (by first | exact hB _ _ | exact hB0 _ _ | exact hBt _ _ | exact ⟨by omega, by omega⟩) (by first | exact hB _ _ | exact hB0 _ _ | exact hBt _ _ | exact ⟨by omega, by omega⟩) (by first | exact hB _ _ | exact hB0 _ _ | exact hBt _ _ | exact ⟨by omega, by omega⟩)) (fun σ44 hz44 => ?_)
          obtain ⟨hB, f44⟩ := hz44
          try have u44_0 : σ44 18 2 = σ22 18 2 := by first | exact o44 2 (by decide) | exact congrFun (f44 18 (by decide)) 2
          try have u44_1 : σ44 18 3 = σ22 18 3 := by first | exact o44 3 (by decide) | exact congrFun (f44 18 (by decide)) 3
          refine pe_iinc d_G_resize_47 rfl ?_
          refine pe_goto (t := 2) d_G_resize_50 ?_
          exact ih (_, _) ⟨by (try dsimp only); omega, hB, (fun b hb => (f44 b (by simp at hb ⊢; try omega)).trans ((f22 b (by simp at hb ⊢; try omega)).trans (hfr b (by simp at hb ⊢; try omega))))⟩ (by (try dsimp only); omega)
      · skip
        refine pe_iload_n d_G_resize_17 rfl ?_
        refine pe_goto (t := 22) d_G_resize_18 ?_
        refine pe_v2v d_G_resize_22 c_G_56 i_G_blankFrom s_G_blankFrom rfl rfl (t_G_blankFrom_18 hB (by omega) (by omega) (by omega)) (fun σ22 hz22 => ?_)
        obtain ⟨hB, f22⟩ := hz22
        try have u22_0 : σ22 18 2 = τ 18 2 := by first | exact o22 2 (by decide) | exact congrFun (f22 18 (by decide)) 2
        try have u22_1 : σ22 18 3 = τ 18 3 := by first | exact o22 3 (by decide) | exact congrFun (f22 18 (by decide)) 3
        have hd : 1 ≤ σ22 18 2 ∧ σ22 18 2 ≤ 24 ∧ 1 ≤ σ22 18 3 ∧ σ22 18 3 ≤ 8 := by omega
        refine pe_aload_n d_G_resize_25 rfl ?_
        refine pe_iload_n d_G_resize_26 rfl ?_
        refine pe_iload_n d_G_resize_27 rfl ?_
        refine pe_iconst d_G_resize_28 ?_
        refine pe_isub d_G_resize_29 ?_
        refine pe_v2p d_G_resize_30 c_G_60 i_G_isWideAt s_G_isWideAt rfl rfl (t_G_isWideAt_18 hB (by omega) (by first | exact hB _ _ | exact hB0 _ _ | exact hBt _ _ | exact ⟨by omega, by omega⟩) (by first | exact hB _ _ | exact hB0 _ _ | exact hBt _ _ | exact ⟨by omega, by omega⟩)) (fun z30 hz30 => ?_)
        refine pe_if_eq (t := 47) d_G_resize_33 (by first | exact hB _ _ | exact hB0 _ _ | exact hBt _ _ | exact ⟨by omega, by omega⟩) (fun h33 => ?_) (fun h33 => ?_)
        · skip
          refine pe_iinc d_G_resize_47 rfl ?_
          refine pe_goto (t := 2) d_G_resize_50 ?_
          exact ih (_, _) ⟨by (try dsimp only); omega, hB, (fun b hb => (f22 b (by simp at hb ⊢; try omega)).trans (hfr b (by simp at hb ⊢; try omega)))⟩ (by (try dsimp only); omega)
        · skip
          refine pe_aload_n d_G_resize_36 rfl ?_
          refine pe_iload_n d_G_resize_37 rfl ?_
          refine pe_iload_n d_G_resize_38 rfl ?_
          refine pe_iconst d_G_resize_39 ?_
          refine pe_isub d_G_resize_40 ?_
          refine pe_bipush d_G_resize_41 ?_
          refine pe_iconst d_G_resize_43 ?_
          refine pe_v4v d_G_resize_44 c_G_52 i_G_put s_G_put rfl rfl (t_G_put_18 hB (by omega) (by first | exact hB _ _ | exact hB0 _ _ | exact hBt _ _ | exact ⟨by omega, by omega⟩) (by first | exact hB _ _ | exact hB0 _ _ | exact hBt _ _ | exact ⟨by omega, by omega⟩) (by first | exact hB _ _ | exact hB0 _ _ | exact hBt _ _ | exact ⟨by omega, by omega⟩) (by first | exact hB _ _ | exact hB0 _ _ | exact hBt _ _ | exact ⟨by omega, by omega⟩)) (fun σ44 hz44 => ?_)
          obtain ⟨hB, f44⟩ := hz44
          try have u44_0 : σ44 18 2 = σ22 18 2 := by first | exact o44 2 (by decide) | exact congrFun (f44 18 (by decide)) 2
          try have u44_1 : σ44 18 3 = σ22 18 3 := by first | exact o44 3 (by decide) | exact congrFun (f44 18 (by decide)) 3
          refine pe_iinc d_G_resize_47 rfl ?_
          refine pe_goto (t := 2) d_G_resize_50 ?_
          exact ih (_, _) ⟨by (try dsimp only); omega, hB, (fun b hb => (f44 b (by simp at hb ⊢; try omega)).trans ((f22 b (by simp at hb ⊢; try omega)).trans (hfr b (by simp at hb ⊢; try omega))))⟩ (by (try dsimp only); omega)
  refine pe_iconst d_G_resize_0 ?_
  refine pe_istore_n d_G_resize_1 ?_
  exact J2 (_, _) ⟨by (try dsimp only); omega, hB, fun _ _ => rfl⟩
theorem t_G_has_25 {σ : pe_H} {r c : Int} (hd : 1 ≤ σ 25 2 ∧ σ 25 2 ≤ 24 ∧ 1 ≤ σ 25 3 ∧ σ 25 3 ≤ 8) (hr : pe_R r) (hc : pe_R c) : pe_M m_G_has [pe_r 25, pe_i r, pe_i c] σ (pe_qp σ (fun z => (z = 0 ∨ z = 1) ∧ (z = 1 ↔ 0 ≤ r ∧ r < σ 25 3 ∧ 0 ≤ c ∧ c < σ 25 2))) := by
  refine pe_in0 (lv := [some (pe_r 25), some (pe_i r), some (pe_i c)]) ?_
  refine pe_iload_n d_G_has_0 rfl ?_
  refine pe_if_lt (t := 28) d_G_has_1 (by first | exact hB _ _ | exact hB0 _ _ | exact hBt _ _ | exact ⟨by omega, by omega⟩) (fun h1 => ?_) (fun h1 => ?_)
  · skip
    refine pe_iconst d_G_has_28 ?_
    refine pe_rz d_G_has_29 (by first | exact Or.inl rfl | exact Or.inr rfl | omega) ?_
    exact ⟨rfl, by (try dsimp only); omega⟩
  · skip
    refine pe_iload_n d_G_has_4 rfl ?_
    refine pe_aload_n d_G_has_5 rfl ?_
    refine pe_geti f_G_22 d_G_has_6 rfl rfl 3 rfl ?_
    refine pe_icmp_ge (t := 28) d_G_has_9 (by first | exact hB _ _ | exact hB0 _ _ | exact hBt _ _ | exact ⟨by omega, by omega⟩) (by first | exact hB _ _ | exact hB0 _ _ | exact hBt _ _ | exact ⟨by omega, by omega⟩) (fun h9 => ?_) (fun h9 => ?_)
    · skip
      refine pe_iconst d_G_has_28 ?_
      refine pe_rz d_G_has_29 (by first | exact Or.inl rfl | exact Or.inr rfl | omega) ?_
      exact ⟨rfl, by (try dsimp only); omega⟩
    · skip
      refine pe_iload_n d_G_has_12 rfl ?_
      refine pe_if_lt (t := 28) d_G_has_13 (by first | exact hB _ _ | exact hB0 _ _ | exact hBt _ _ | exact ⟨by omega, by omega⟩) (fun h13 => ?_) (fun h13 => ?_)
      · skip
        refine pe_iconst d_G_has_28 ?_
        refine pe_rz d_G_has_29 (by first | exact Or.inl rfl | exact Or.inr rfl | omega) ?_
        exact ⟨rfl, by (try dsimp only); omega⟩
      · skip
        refine pe_iload_n d_G_has_16 rfl ?_
        refine pe_aload_n d_G_has_17 rfl ?_
        refine pe_geti f_G_18 d_G_has_18 rfl rfl 2 rfl ?_
        refine pe_icmp_ge (t := 28) d_G_has_21 (by first | exact hB _ _ | exact hB0 _ _ | exact hBt _ _ | exact ⟨by omega, by omega⟩) (by first | exact hB _ _ | exact hB0 _ _ | exact hBt _ _ | exact ⟨by omega, by omega⟩) (fun h21 => ?_) (fun h21 => ?_)
        · skip
          refine pe_iconst d_G_has_28 ?_
          refine pe_rz d_G_has_29 (by first | exact Or.inl rfl | exact Or.inr rfl | omega) ?_
          exact ⟨rfl, by (try dsimp only); omega⟩
        · skip
          refine pe_iconst d_G_has_24 ?_
          refine pe_goto (t := 29) d_G_has_25 ?_
          refine pe_rz d_G_has_29 (by first | exact Or.inl rfl | exact Or.inr rfl | omega) ?_
          exact ⟨rfl, by (try dsimp only); omega⟩
theorem t_G_clusterAt_25 {σ : pe_H} {r c : Int} (hB : pe_B σ) (hd : 1 ≤ σ 25 2 ∧ σ 25 2 ≤ 24 ∧ 1 ≤ σ 25 3 ∧ σ 25 3 ≤ 8) (hr : pe_R r) (hc : pe_R c) : pe_M m_G_clusterAt [pe_r 25, pe_i r, pe_i c] σ (pe_qp σ (fun z => pe_R z)) := by
  refine pe_in0 (lv := [some (pe_r 25), some (pe_i r), some (pe_i c)]) ?_
  have hB0 := hB
  refine pe_aload_n d_G_clusterAt_0 rfl ?_
  refine pe_iload_n d_G_clusterAt_1 rfl ?_
  refine pe_iload_n d_G_clusterAt_2 rfl ?_
  refine pe_v2p d_G_clusterAt_3 c_G_31 i_G_has s_G_has rfl rfl (t_G_has_25 (by omega) (by first | exact hB _ _ | exact hB0 _ _ | exact hBt _ _ | exact ⟨by omega, by omega⟩) (by first | exact hB _ _ | exact hB0 _ _ | exact hBt _ _ | exact ⟨by omega, by omega⟩)) (fun z3 hz3 => ?_)
  refine pe_if_eq (t := 23) d_G_clusterAt_6 (by first | exact hB _ _ | exact hB0 _ _ | exact hBt _ _ | exact ⟨by omega, by omega⟩) (fun h6 => ?_) (fun h6 => ?_)
  · skip
    refine pe_iconst d_G_clusterAt_23 ?_
    refine pe_ri d_G_clusterAt_24 ?_
    exact ⟨rfl, by first | exact hB _ _ | exact ⟨by omega, by omega⟩⟩
  · skip
    refine pe_aload_n d_G_clusterAt_9 rfl ?_
    refine pe_getr f_G_9 d_G_clusterAt_10 rfl rfl ?_
    refine pe_iload_n d_G_clusterAt_13 rfl ?_
    refine pe_bipush d_G_clusterAt_14 ?_
    refine pe_imul d_G_clusterAt_16 ?_
    refine pe_iload_n d_G_clusterAt_17 rfl ?_
    refine pe_iadd d_G_clusterAt_18 ?_
    refine pe_iald d_G_clusterAt_19 rfl (by omega) (by omega) ?_
    refine pe_goto (t := 24) d_G_clusterAt_20 ?_
    refine pe_ri d_G_clusterAt_24 ?_
    exact ⟨rfl, by first | exact hB _ _ | exact ⟨by omega, by omega⟩⟩
theorem t_G_lookAt_25 {σ : pe_H} {r c : Int} (hB : pe_B σ) (hd : 1 ≤ σ 25 2 ∧ σ 25 2 ≤ 24 ∧ 1 ≤ σ 25 3 ∧ σ 25 3 ≤ 8) (hr : pe_R r) (hc : pe_R c) : pe_M m_G_lookAt [pe_r 25, pe_i r, pe_i c] σ (pe_qp σ (fun z => pe_R z)) := by
  refine pe_in0 (lv := [some (pe_r 25), some (pe_i r), some (pe_i c)]) ?_
  have hB0 := hB
  refine pe_aload_n d_G_lookAt_0 rfl ?_
  refine pe_iload_n d_G_lookAt_1 rfl ?_
  refine pe_iload_n d_G_lookAt_2 rfl ?_
  refine pe_v2p d_G_lookAt_3 c_G_31 i_G_has s_G_has rfl rfl (t_G_has_25 (by omega) (by first | exact hB _ _ | exact hB0 _ _ | exact hBt _ _ | exact ⟨by omega, by omega⟩) (by first | exact hB _ _ | exact hB0 _ _ | exact hBt _ _ | exact ⟨by omega, by omega⟩)) (fun z3 hz3 => ?_)
  refine pe_if_eq (t := 23) d_G_lookAt_6 (by first | exact hB _ _ | exact hB0 _ _ | exact hBt _ _ | exact ⟨by omega, by omega⟩) (fun h6 => ?_) (fun h6 => ?_)
  · skip
    refine pe_iconst d_G_lookAt_23 ?_
    refine pe_ri d_G_lookAt_24 ?_
    exact ⟨rfl, by first | exact hB _ _ | exact ⟨by omega, by omega⟩⟩
  · skip
    refine pe_aload_n d_G_lookAt_9 rfl ?_
    refine pe_getr f_G_15 d_G_lookAt_10 rfl rfl ?_
    refine pe_iload_n d_G_lookAt_13 rfl ?_
    refine pe_bipush d_G_lookAt_14 ?_
    refine pe_imul d_G_lookAt_16 ?_
    refine pe_iload_n d_G_lookAt_17 rfl ?_
    refine pe_iadd d_G_lookAt_18 ?_
    refine pe_iald d_G_lookAt_19 rfl (by omega) (by omega) ?_
    refine pe_goto (t := 24) d_G_lookAt_20 ?_
    refine pe_ri d_G_lookAt_24 ?_
    exact ⟨rfl, by first | exact hB _ _ | exact ⟨by omega, by omega⟩⟩
theorem t_G_put_25 {σ : pe_H} {r c u w : Int} (hB : pe_B σ) (hd : 1 ≤ σ 25 2 ∧ σ 25 2 ≤ 24 ∧ 1 ≤ σ 25 3 ∧ σ 25 3 ≤ 8) (hr : pe_R r) (hc : pe_R c) (hu : pe_R u) (hw : pe_R w) : pe_M m_G_put [pe_r 25, pe_i r, pe_i c, pe_i u, pe_i w] σ (pe_qv (fun σ' => pe_B σ' ∧ ∀ b, b ∉ [26, 27] → σ' b = σ b)) := by
  refine pe_in0 (lv := [some (pe_r 25), some (pe_i r), some (pe_i c), some (pe_i u), some (pe_i w)]) ?_
  have hB0 := hB
  refine pe_aload_n d_G_put_0 rfl ?_
  refine pe_iload_n d_G_put_1 rfl ?_
  refine pe_iload_n d_G_put_2 rfl ?_
  refine pe_v2p d_G_put_3 c_G_31 i_G_has s_G_has rfl rfl (t_G_has_25 (by omega) (by first | exact hB _ _ | exact hB0 _ _ | exact hBt _ _ | exact ⟨by omega, by omega⟩) (by first | exact hB _ _ | exact hB0 _ _ | exact hBt _ _ | exact ⟨by omega, by omega⟩)) (fun z3 hz3 => ?_)
  refine pe_if_eq (t := 34) d_G_put_6 (by first | exact hB _ _ | exact hB0 _ _ | exact hBt _ _ | exact ⟨by omega, by omega⟩) (fun h6 => ?_) (fun h6 => ?_)
  · skip
    refine pe_rv d_G_put_34 ?_
    exact ⟨hB, (fun b hb => rfl)⟩
  · skip
    refine pe_aload_n d_G_put_9 rfl ?_
    refine pe_getr f_G_9 d_G_put_10 rfl rfl ?_
    refine pe_iload_n d_G_put_13 rfl ?_
    refine pe_bipush d_G_put_14 ?_
    refine pe_imul d_G_put_16 ?_
    refine pe_iload_n d_G_put_17 rfl ?_
    refine pe_iadd d_G_put_18 ?_
    refine pe_iload_n d_G_put_19 rfl ?_
    refine pe_iastT d_G_put_20 rfl (by omega) (by omega) hB (by first | exact hB _ _ | exact hB0 _ _ | exact hBt _ _ | exact ⟨by omega, by omega⟩) (fun σ20 hB e20 o20 f20 => ?_)
    refine pe_aload_n d_G_put_21 rfl ?_
    refine pe_getr f_G_15 d_G_put_22 rfl rfl ?_
    refine pe_iload_n d_G_put_25 rfl ?_
    refine pe_bipush d_G_put_26 ?_
    refine pe_imul d_G_put_28 ?_
    refine pe_iload_n d_G_put_29 rfl ?_
    refine pe_iadd d_G_put_30 ?_
    refine pe_iload d_G_put_31 rfl ?_
    refine pe_iastT d_G_put_33 rfl (by omega) (by omega) hB (by first | exact hB _ _ | exact hB0 _ _ | exact hBt _ _ | exact ⟨by omega, by omega⟩) (fun σ33 hB e33 o33 f33 => ?_)
    refine pe_rv d_G_put_34 ?_
    exact ⟨hB, (fun b hb => (f33 b (by simp at hb ⊢; try omega)).trans ((f20 b (by simp at hb ⊢; try omega)).trans (rfl)))⟩
theorem t_G_isBlank_25 {σ : pe_H} {r c : Int} (hB : pe_B σ) (hd : 1 ≤ σ 25 2 ∧ σ 25 2 ≤ 24 ∧ 1 ≤ σ 25 3 ∧ σ 25 3 ≤ 8) (hr : pe_R r) (hc : pe_R c) : pe_M m_G_isBlank [pe_r 25, pe_i r, pe_i c] σ (pe_qp σ (fun z => z = 0 ∨ z = 1)) := by
  refine pe_in0 (lv := [some (pe_r 25), some (pe_i r), some (pe_i c)]) ?_
  have hB0 := hB
  refine pe_aload_n d_G_isBlank_0 rfl ?_
  refine pe_iload_n d_G_isBlank_1 rfl ?_
  refine pe_iload_n d_G_isBlank_2 rfl ?_
  refine pe_v2p d_G_isBlank_3 c_G_35 i_G_clusterAt s_G_clusterAt rfl rfl (t_G_clusterAt_25 hB (by omega) (by first | exact hB _ _ | exact hB0 _ _ | exact hBt _ _ | exact ⟨by omega, by omega⟩) (by first | exact hB _ _ | exact hB0 _ _ | exact hBt _ _ | exact ⟨by omega, by omega⟩)) (fun z3 hz3 => ?_)
  refine pe_bipush d_G_isBlank_6 ?_
  refine pe_icmp_ne (t := 24) d_G_isBlank_8 (by first | exact hB _ _ | exact hB0 _ _ | exact hBt _ _ | exact ⟨by omega, by omega⟩) (by first | exact hB _ _ | exact hB0 _ _ | exact hBt _ _ | exact ⟨by omega, by omega⟩) (fun h8 => ?_) (fun h8 => ?_)
  · skip
    refine pe_iconst d_G_isBlank_24 ?_
    refine pe_rz d_G_isBlank_25 (by first | exact Or.inl rfl | exact Or.inr rfl | omega) ?_
    exact ⟨rfl, by (try dsimp only); omega⟩
  · skip
    refine pe_aload_n d_G_isBlank_11 rfl ?_
    refine pe_iload_n d_G_isBlank_12 rfl ?_
    refine pe_iload_n d_G_isBlank_13 rfl ?_
    refine pe_v2p d_G_isBlank_14 c_G_39 i_G_lookAt s_G_lookAt rfl rfl (t_G_lookAt_25 hB (by omega) (by first | exact hB _ _ | exact hB0 _ _ | exact hBt _ _ | exact ⟨by omega, by omega⟩) (by first | exact hB _ _ | exact hB0 _ _ | exact hBt _ _ | exact ⟨by omega, by omega⟩)) (fun z14 hz14 => ?_)
    refine pe_if_ne (t := 24) d_G_isBlank_17 (by first | exact hB _ _ | exact hB0 _ _ | exact hBt _ _ | exact ⟨by omega, by omega⟩) (fun h17 => ?_) (fun h17 => ?_)
    · skip
      refine pe_iconst d_G_isBlank_24 ?_
      refine pe_rz d_G_isBlank_25 (by first | exact Or.inl rfl | exact Or.inr rfl | omega) ?_
      exact ⟨rfl, by (try dsimp only); omega⟩
    · skip
      refine pe_iconst d_G_isBlank_20 ?_
      refine pe_goto (t := 25) d_G_isBlank_21 ?_
      refine pe_rz d_G_isBlank_25 (by first | exact Or.inl rfl | exact Or.inr rfl | omega) ?_
      exact ⟨rfl, by (try dsimp only); omega⟩
theorem t_G_isWideAt_25 {σ : pe_H} {r c : Int} (hB : pe_B σ) (hd : 1 ≤ σ 25 2 ∧ σ 25 2 ≤ 24 ∧ 1 ≤ σ 25 3 ∧ σ 25 3 ≤ 8) (hr : pe_R r) (hc : pe_R c) : pe_M m_G_isWideAt [pe_r 25, pe_i r, pe_i c] σ (pe_qp σ (fun z => z = 0 ∨ z = 1)) := by
  refine pe_in0 (lv := [some (pe_r 25), some (pe_i r), some (pe_i c)]) ?_
  have hB0 := hB
  refine pe_aload_n d_G_isWideAt_0 rfl ?_
  refine pe_iload_n d_G_isWideAt_1 rfl ?_
  refine pe_iload_n d_G_isWideAt_2 rfl ?_
  refine pe_v2p d_G_isWideAt_3 c_G_31 i_G_has s_G_has rfl rfl (t_G_has_25 (by omega) (by first | exact hB _ _ | exact hB0 _ _ | exact hBt _ _ | exact ⟨by omega, by omega⟩) (by first | exact hB _ _ | exact hB0 _ _ | exact hBt _ _ | exact ⟨by omega, by omega⟩)) (fun z3 hz3 => ?_)
  refine pe_if_eq (t := 28) d_G_isWideAt_6 (by first | exact hB _ _ | exact hB0 _ _ | exact hBt _ _ | exact ⟨by omega, by omega⟩) (fun h6 => ?_) (fun h6 => ?_)
  · skip
    refine pe_iconst d_G_isWideAt_28 ?_
    refine pe_rz d_G_isWideAt_29 (by first | exact Or.inl rfl | exact Or.inr rfl | omega) ?_
    exact ⟨rfl, by (try dsimp only); omega⟩
  · skip
    refine pe_aload_n d_G_isWideAt_9 rfl ?_
    refine pe_iload_n d_G_isWideAt_10 rfl ?_
    refine pe_iload_n d_G_isWideAt_11 rfl ?_
    refine pe_v2p d_G_isWideAt_12 c_G_35 i_G_clusterAt s_G_clusterAt rfl rfl (t_G_clusterAt_25 hB (by omega) (by first | exact hB _ _ | exact hB0 _ _ | exact hBt _ _ | exact ⟨by omega, by omega⟩) (by first | exact hB _ _ | exact hB0 _ _ | exact hBt _ _ | exact ⟨by omega, by omega⟩)) (fun z12 hz12 => ?_)
    refine pe_s1p d_G_isWideAt_15 c_G_42 z_C_characterOf (t_C_characterOf (by first | exact hB _ _ | exact hB0 _ _ | exact hBt _ _ | exact ⟨by omega, by omega⟩)) (fun z15 hz15 => ?_)
    have hT15 : -65536 < z15 ∧ z15 < 65536 := by rw [hz15]; exact pe_tm _ (by omega)
    refine pe_s1p d_G_isWideAt_18 c_G_48 z_C_isWide (t_C_isWide (by first | exact hB _ _ | exact hB0 _ _ | exact hBt _ _ | exact ⟨by omega, by omega⟩)) (fun z18 hz18 => ?_)
    refine pe_if_eq (t := 28) d_G_isWideAt_21 (by first | exact hB _ _ | exact hB0 _ _ | exact hBt _ _ | exact ⟨by omega, by omega⟩) (fun h21 => ?_) (fun h21 => ?_)
    · skip
      refine pe_iconst d_G_isWideAt_28 ?_
      refine pe_rz d_G_isWideAt_29 (by first | exact Or.inl rfl | exact Or.inr rfl | omega) ?_
      exact ⟨rfl, by (try dsimp only); omega⟩
    · skip
      refine pe_iconst d_G_isWideAt_24 ?_
      refine pe_goto (t := 29) d_G_isWideAt_25 ?_
      refine pe_rz d_G_isWideAt_29 (by first | exact Or.inl rfl | exact Or.inr rfl | omega) ?_
      exact ⟨rfl, by (try dsimp only); omega⟩
theorem t_G_blankFrom_25 {σ : pe_H} {r c : Int} (hB : pe_B σ) (hd : 1 ≤ σ 25 2 ∧ σ 25 2 ≤ 24 ∧ 1 ≤ σ 25 3 ∧ σ 25 3 ≤ 8) (hr : -100 ≤ r ∧ r ≤ 100) (hc : -100 ≤ c ∧ c ≤ 100) : pe_M m_G_blankFrom [pe_r 25, pe_i r, pe_i c] σ (pe_qv (fun σ' => pe_B σ' ∧ ∀ b, b ∉ [26, 27] → σ' b = σ b)) := by
  refine pe_in0 (lv := [some (pe_r 25), some (pe_i r), some (pe_i c), none]) ?_
  have hB0 := hB
  have J2 : ∀ fs : Int × pe_H, ((-100 ≤ fs.1 ∧ fs.1 ≤ 200) ∧ pe_B fs.2 ∧ ∀ b, b ∉ [26, 27] → fs.2 b = σ b) → pe_G m_G_blankFrom 2 [some (pe_r 25), some (pe_i r), some (pe_i c), some (pe_i fs.1)] [] fs.2 (pe_qv (fun σ' => pe_B σ' ∧ ∀ b, b ∉ [26, 27] → σ' b = σ b)) := by
    refine pe_loop (fun fs : Int × pe_H => (300 - fs.1).toNat) _ _ ?_
    intro fs hI ih
    obtain ⟨f, τ⟩ := fs
    dsimp only at hI ⊢
    obtain ⟨hI1, hB, hfr⟩ := hI
    rw [← hfr 25 (by decide)] at hd
    have hBt := hB
    refine pe_iload_n d_G_blankFrom_2 rfl ?_
    refine pe_aload_n d_G_blankFrom_3 rfl ?_
    refine pe_geti f_G_18 d_G_blankFrom_4 rfl rfl 2 rfl ?_
    refine pe_icmp_ge (t := 25) d_G_blankFrom_7 (by first | exact hB _ _ | exact hB0 _ _ | exact hBt _ _ | exact ⟨by omega, by omega⟩) (by first | exact hB _ _ | exact hB0 _ _ | exact hBt _ _ | exact ⟨by omega, by omega⟩) (fun h7 => ?_) (fun h7 => ?_)
    · skip
      refine pe_rv d_G_blankFrom_25 ?_
      exact ⟨hB, hfr⟩
    · skip
      refine pe_aload_n d_G_blankFrom_10 rfl ?_
      refine pe_iload_n d_G_blankFrom_11 rfl ?_
      refine pe_iload_n d_G_blankFrom_12 rfl ?_
      refine pe_bipush d_G_blankFrom_13 ?_
      refine pe_iconst d_G_blankFrom_15 ?_
      refine pe_v4v d_G_blankFrom_16 c_G_52 i_G_put s_G_put rfl rfl (t_G_put_25 hB (by omega) (by first | exact hB _ _ | exact hB0 _ _ | exact hBt _ _ | exact ⟨by omega, by omega⟩) (by first | exact hB _ _ | exact hB0 _ _ | exact hBt _ _ | exact ⟨by omega, by omega⟩) (by first | exact hB _ _ | exact hB0 _ _ | exact hBt _ _ | exact ⟨by omega, by omega⟩) (by first | exact hB _ _ | exact hB0 _ _ | exact hBt _ _ | exact ⟨by omega, by omega⟩)) (fun σ16 hz16 => ?_)
      obtain ⟨hB, f16⟩ := hz16
      try have u16_0 : σ16 25 2 = τ 25 2 := by first | exact o16 2 (by decide) | exact congrFun (f16 25 (by decide)) 2
      try have u16_1 : σ16 25 3 = τ 25 3 := by first | exact o16 3 (by decide) | exact congrFun (f16 25 (by decide)) 3
      refine pe_iinc d_G_blankFrom_19 rfl ?_
      refine pe_goto (t := 2) d_G_blankFrom_22 ?_
      exact ih (_, _) ⟨by (try dsimp only); omega, hB, (fun b hb => (f16 b (by simp at hb ⊢; try omega)).trans (hfr b hb))⟩ (by (try dsimp only); omega)
  refine pe_iload_n d_G_blankFrom_0 rfl ?_
  refine pe_istore_n d_G_blankFrom_1 ?_
  exact J2 (_, _) ⟨by (try dsimp only); omega, hB, fun _ _ => rfl⟩
theorem t_A_fill_26 {σ : pe_H} {v : Int} (hB : pe_B σ) (hv : pe_R v) : pe_M m_A_fill [pe_r 26, pe_i v] σ (pe_qv (fun σ' => pe_B σ' ∧ ∀ b, b ∉ [26] → σ' b = σ b)) := by
  refine pe_in0 (lv := [some (pe_r 26), some (pe_i v), none, none]) ?_
  have hB0 := hB
  have J5 : ∀ fs : Int × pe_H, ((0 ≤ fs.1 ∧ fs.1 ≤ 192) ∧ pe_B fs.2 ∧ ∀ b, b ∉ [26] → fs.2 b = σ b) → pe_G m_A_fill 5 [some (pe_r 26), some (pe_i v), some (pe_i fs.1), some (pe_i 192)] [] fs.2 (pe_qv (fun σ' => pe_B σ' ∧ ∀ b, b ∉ [26] → σ' b = σ b)) := by
    refine pe_loop (fun fs : Int × pe_H => (300 - fs.1).toNat) _ _ ?_
    intro fs hI ih
    obtain ⟨f, τ⟩ := fs
    dsimp only at hI ⊢
    obtain ⟨hI1, hB, hfr⟩ := hI
    have hBt := hB
    refine pe_iload_n d_A_fill_5 rfl ?_
    refine pe_iload_n d_A_fill_6 rfl ?_
    refine pe_icmp_ge (t := 20) d_A_fill_7 (by first | exact hB _ _ | exact hB0 _ _ | exact hBt _ _ | exact ⟨by omega, by omega⟩) (by first | exact hB _ _ | exact hB0 _ _ | exact hBt _ _ | exact ⟨by omega, by omega⟩) (fun h7 => ?_) (fun h7 => ?_)
    · skip
      refine pe_rv d_A_fill_20 ?_
      exact ⟨hB, hfr⟩
    · skip
      refine pe_aload_n d_A_fill_10 rfl ?_
      refine pe_iload_n d_A_fill_11 rfl ?_
      refine pe_iload_n d_A_fill_12 rfl ?_
      refine pe_iastT d_A_fill_13 rfl (by omega) (by omega) hB (by first | exact hB _ _ | exact hB0 _ _ | exact hBt _ _ | exact ⟨by omega, by omega⟩) (fun σ13 hB e13 o13 f13 => ?_)
      refine pe_iinc d_A_fill_14 rfl ?_
      refine pe_goto (t := 5) d_A_fill_17 ?_
      exact ih (_, _) ⟨by (try dsimp only); omega, hB, (fun b hb => (f13 b (by simp at hb ⊢; try omega)).trans (hfr b hb))⟩ (by (try dsimp only); omega)
  refine pe_iconst d_A_fill_0 ?_
  refine pe_istore_n d_A_fill_1 ?_
  refine pe_aload_n d_A_fill_2 rfl ?_
  refine pe_alen (t0 := 0) d_A_fill_3 rfl (fun _ => rfl) ?_
  refine pe_istore_n d_A_fill_4 ?_
  exact J5 (_, _) ⟨by (try dsimp only); omega, hB, fun _ _ => rfl⟩
theorem t_A_fill_27 {σ : pe_H} {v : Int} (hB : pe_B σ) (hv : pe_R v) : pe_M m_A_fill [pe_r 27, pe_i v] σ (pe_qv (fun σ' => pe_B σ' ∧ ∀ b, b ∉ [27] → σ' b = σ b)) := by
  refine pe_in0 (lv := [some (pe_r 27), some (pe_i v), none, none]) ?_
  have hB0 := hB
  have J5 : ∀ fs : Int × pe_H, ((0 ≤ fs.1 ∧ fs.1 ≤ 192) ∧ pe_B fs.2 ∧ ∀ b, b ∉ [27] → fs.2 b = σ b) → pe_G m_A_fill 5 [some (pe_r 27), some (pe_i v), some (pe_i fs.1), some (pe_i 192)] [] fs.2 (pe_qv (fun σ' => pe_B σ' ∧ ∀ b, b ∉ [27] → σ' b = σ b)) := by
    refine pe_loop (fun fs : Int × pe_H => (300 - fs.1).toNat) _ _ ?_
    intro fs hI ih
    obtain ⟨f, τ⟩ := fs
    dsimp only at hI ⊢
    obtain ⟨hI1, hB, hfr⟩ := hI
    have hBt := hB
    refine pe_iload_n d_A_fill_5 rfl ?_
    refine pe_iload_n d_A_fill_6 rfl ?_
    refine pe_icmp_ge (t := 20) d_A_fill_7 (by first | exact hB _ _ | exact hB0 _ _ | exact hBt _ _ | exact ⟨by omega, by omega⟩) (by first | exact hB _ _ | exact hB0 _ _ | exact hBt _ _ | exact ⟨by omega, by omega⟩) (fun h7 => ?_) (fun h7 => ?_)
    · skip
      refine pe_rv d_A_fill_20 ?_
      exact ⟨hB, hfr⟩
    · skip
      refine pe_aload_n d_A_fill_10 rfl ?_
      refine pe_iload_n d_A_fill_11 rfl ?_
      refine pe_iload_n d_A_fill_12 rfl ?_
      refine pe_iastT d_A_fill_13 rfl (by omega) (by omega) hB (by first | exact hB _ _ | exact hB0 _ _ | exact hBt _ _ | exact ⟨by omega, by omega⟩) (fun σ13 hB e13 o13 f13 => ?_)
      refine pe_iinc d_A_fill_14 rfl ?_
      refine pe_goto (t := 5) d_A_fill_17 ?_
      exact ih (_, _) ⟨by (try dsimp only); omega, hB, (fun b hb => (f13 b (by simp at hb ⊢; try omega)).trans (hfr b hb))⟩ (by (try dsimp only); omega)
  refine pe_iconst d_A_fill_0 ?_
  refine pe_istore_n d_A_fill_1 ?_
  refine pe_aload_n d_A_fill_2 rfl ?_
  refine pe_alen (t0 := 0) d_A_fill_3 rfl (fun _ => rfl) ?_
  refine pe_istore_n d_A_fill_4 ?_
  exact J5 (_, _) ⟨by (try dsimp only); omega, hB, fun _ _ => rfl⟩
theorem t_G_blankAll_25 {σ : pe_H} (hB : pe_B σ) : pe_M m_G_blankAll [pe_r 25] σ (pe_qv (fun σ' => pe_B σ' ∧ ∀ b, b ∉ [26, 27] → σ' b = σ b)) := by
  refine pe_in0 (lv := [some (pe_r 25)]) ?_
  have hB0 := hB
  refine pe_aload_n d_G_blankAll_0 rfl ?_
  refine pe_getr f_G_9 d_G_blankAll_1 rfl rfl ?_
  refine pe_bipush d_G_blankAll_4 ?_
  refine pe_s2v d_G_blankAll_6 c_G_25 z_A_fill (t_A_fill_26 hB (by first | exact hB _ _ | exact hB0 _ _ | exact hBt _ _ | exact ⟨by omega, by omega⟩)) (fun σ6 hz6 => ?_)
  obtain ⟨hB, f6⟩ := hz6
  refine pe_aload_n d_G_blankAll_9 rfl ?_
  refine pe_getr f_G_15 d_G_blankAll_10 rfl rfl ?_
  refine pe_iconst d_G_blankAll_13 ?_
  refine pe_s2v d_G_blankAll_14 c_G_25 z_A_fill (t_A_fill_27 hB (by first | exact hB _ _ | exact hB0 _ _ | exact hBt _ _ | exact ⟨by omega, by omega⟩)) (fun σ14 hz14 => ?_)
  obtain ⟨hB, f14⟩ := hz14
  refine pe_rv d_G_blankAll_17 ?_
  exact ⟨hB, (fun b hb => (f14 b (by simp at hb ⊢; try omega)).trans ((f6 b (by simp at hb ⊢; try omega)).trans (rfl)))⟩
theorem t_G_resize_25 {σ : pe_H} {r c : Int} (hB : pe_B σ) (hd : 1 ≤ σ 25 2 ∧ σ 25 2 ≤ 24 ∧ 1 ≤ σ 25 3 ∧ σ 25 3 ≤ 8) (hc : 1 ≤ c ∧ c ≤ 24) (hr : 1 ≤ r ∧ r ≤ 8) : pe_M m_G_resize [pe_r 25, pe_i c, pe_i r] σ (pe_qv (fun σ' => pe_B σ' ∧ (∀ b, b ∉ [25, 26, 27] → σ' b = σ b) ∧ σ' 25 2 = c ∧ σ' 25 3 = r)) := by
  refine pe_in0 (lv := [some (pe_r 25), some (pe_i c), some (pe_i r), none]) ?_
  have hB0 := hB
  have J2 : ∀ fs : Int × pe_H, ((0 ≤ fs.1 ∧ fs.1 ≤ 8) ∧ pe_B fs.2 ∧ ∀ b, b ∉ [26, 27] → fs.2 b = σ b) → pe_G m_G_resize 2 [some (pe_r 25), some (pe_i c), some (pe_i r), some (pe_i fs.1)] [] fs.2 (pe_qv (fun σ' => pe_B σ' ∧ (∀ b, b ∉ [25, 26, 27] → σ' b = σ b) ∧ σ' 25 2 = c ∧ σ' 25 3 = r)) := by
    refine pe_loop (fun fs : Int × pe_H => (300 - fs.1).toNat) _ _ ?_
    intro fs hI ih
    obtain ⟨f, τ⟩ := fs
    dsimp only at hI ⊢
    obtain ⟨hI1, hB, hfr⟩ := hI
    rw [← hfr 25 (by decide)] at hd
    have hBt := hB
    refine pe_iload_n d_G_resize_2 rfl ?_
    refine pe_aload_n d_G_resize_3 rfl ?_
    refine pe_geti f_G_22 d_G_resize_4 rfl rfl 3 rfl ?_
    refine pe_icmp_ge (t := 53) d_G_resize_7 (by first | exact hB _ _ | exact hB0 _ _ | exact hBt _ _ | exact ⟨by omega, by omega⟩) (by first | exact hB _ _ | exact hB0 _ _ | exact hBt _ _ | exact ⟨by omega, by omega⟩) (fun h7 => ?_) (fun h7 => ?_)
    · skip
      refine pe_aload_n d_G_resize_53 rfl ?_
      refine pe_iload_n d_G_resize_54 rfl ?_
      refine pe_putiT f_G_18 g_7_2 d_G_resize_55 rfl rfl 2 rfl hB (by first | exact hB _ _ | exact hB0 _ _ | exact hBt _ _ | exact ⟨by omega, by omega⟩) (fun σ55 hB e55 o55 f55 => ?_)
      try have u55_0 : σ55 25 2 = τ 25 2 := by first | exact o55 2 (by decide) | exact congrFun (f55 25 (by decide)) 2
      try have u55_1 : σ55 25 3 = τ 25 3 := by first | exact o55 3 (by decide) | exact congrFun (f55 25 (by decide)) 3
      refine pe_aload_n d_G_resize_58 rfl ?_
      refine pe_iload_n d_G_resize_59 rfl ?_
      refine pe_putiT f_G_22 g_7_3 d_G_resize_60 rfl rfl 3 rfl hB (by first | exact hB _ _ | exact hB0 _ _ | exact hBt _ _ | exact ⟨by omega, by omega⟩) (fun σ60 hB e60 o60 f60 => ?_)
      try have u60_0 : σ60 25 2 = σ55 25 2 := by first | exact o60 2 (by decide) | exact congrFun (f60 25 (by decide)) 2
      try have u60_1 : σ60 25 3 = σ55 25 3 := by first | exact o60 3 (by decide) | exact congrFun (f60 25 (by decide)) 3
      refine pe_rv d_G_resize_63 ?_
      exact ⟨hB, (fun b hb => (f60 b (by simp at hb ⊢; try omega)).trans ((f55 b (by simp at hb ⊢; try omega)).trans (hfr b (by simp at hb ⊢; try omega)))), by omega, by omega⟩
    · skip
      refine pe_aload_n d_G_resize_10 rfl ?_
      refine pe_iload_n d_G_resize_11 rfl ?_
      refine pe_iload_n d_G_resize_12 rfl ?_
      refine pe_iload_n d_G_resize_13 rfl ?_
      refine pe_icmp_ge (t := 21) d_G_resize_14 (by first | exact hB _ _ | exact hB0 _ _ | exact hBt _ _ | exact ⟨by omega, by omega⟩) (by first | exact hB _ _ | exact hB0 _ _ | exact hBt _ _ | exact ⟨by omega, by omega⟩) (fun h14 => ?_) (fun h14 => ?_)
      · skip
        refine pe_iconst d_G_resize_21 ?_
        refine pe_v2v d_G_resize_22 c_G_56 i_G_blankFrom s_G_blankFrom rfl rfl (t_G_blankFrom_25 hB (by omega) (by omega) (by omega)) (fun σ22 hz22 => ?_)
        obtain ⟨hB, f22⟩ := hz22
        try have u22_0 : σ22 25 2 = τ 25 2 := by first | exact o22 2 (by decide) | exact congrFun (f22 25 (by decide)) 2
        try have u22_1 : σ22 25 3 = τ 25 3 := by first | exact o22 3 (by decide) | exact congrFun (f22 25 (by decide)) 3
        have hd : 1 ≤ σ22 25 2 ∧ σ22 25 2 ≤ 24 ∧ 1 ≤ σ22 25 3 ∧ σ22 25 3 ≤ 8 := by omega
        refine pe_aload_n d_G_resize_25 rfl ?_
        refine pe_iload_n d_G_resize_26 rfl ?_
        refine pe_iload_n d_G_resize_27 rfl ?_
        refine pe_iconst d_G_resize_28 ?_
        refine pe_isub d_G_resize_29 ?_
        refine pe_v2p d_G_resize_30 c_G_60 i_G_isWideAt s_G_isWideAt rfl rfl (t_G_isWideAt_25 hB (by omega) (by first | exact hB _ _ | exact hB0 _ _ | exact hBt _ _ | exact ⟨by omega, by omega⟩) (by first | exact hB _ _ | exact hB0 _ _ | exact hBt _ _ | exact ⟨by omega, by omega⟩)) (fun z30 hz30 => ?_)
        refine pe_if_eq (t := 47) d_G_resize_33 (by first | exact hB _ _ | exact hB0 _ _ | exact hBt _ _ | exact ⟨by omega, by omega⟩) (fun h33 => ?_) (fun h33 => ?_)
        · skip
          refine pe_iinc d_G_resize_47 rfl ?_
          refine pe_goto (t := 2) d_G_resize_50 ?_
          exact ih (_, _) ⟨by (try dsimp only); omega, hB, (fun b hb => (f22 b (by simp at hb ⊢; try omega)).trans (hfr b (by simp at hb ⊢; try omega)))⟩ (by (try dsimp only); omega)
        · skip
          refine pe_aload_n d_G_resize_36 rfl ?_
          refine pe_iload_n d_G_resize_37 rfl ?_
          refine pe_iload_n d_G_resize_38 rfl ?_
          refine pe_iconst d_G_resize_39 ?_
          refine pe_isub d_G_resize_40 ?_
          refine pe_bipush d_G_resize_41 ?_
          refine pe_iconst d_G_resize_43 ?_
          refine pe_v4v d_G_resize_44 c_G_52 i_G_put s_G_put rfl rfl (t_G_put_25 hB (by omega) (by first | exact hB _ _ | exact hB0 _ _ | exact hBt _ _ | exact ⟨by omega, by omega⟩) (by first | exact hB _ _ | exact hB0 _ _ | exact hBt _ _ | exact ⟨by omega, by omega⟩) (by first | exact hB _ _ | exact hB0 _ _ | exact hBt _ _ | exact ⟨by omega, by omega⟩) (by first | exact hB _ _ | exact hB0 _ _ | exact hBt _ _ | exact ⟨by omega, by omega⟩)) (fun σ44 hz44 => ?_)
          obtain ⟨hB, f44⟩ := hz44
          try have u44_0 : σ44 25 2 = σ22 25 2 := by first | exact o44 2 (by decide) | exact congrFun (f44 25 (by decide)) 2
          try have u44_1 : σ44 25 3 = σ22 25 3 := by first | exact o44 3 (by decide) | exact congrFun (f44 25 (by decide)) 3
          refine pe_iinc d_G_resize_47 rfl ?_
          refine pe_goto (t := 2) d_G_resize_50 ?_
          exact ih (_, _) ⟨by (try dsimp only); omega, hB, (fun b hb => (f44 b (by simp at hb ⊢; try omega)).trans ((f22 b (by simp at hb ⊢; try omega)).trans (hfr b (by simp at hb ⊢; try omega))))⟩ (by (try dsimp only); omega)
      · skip
        refine pe_iload_n d_G_resize_17 rfl ?_
        refine pe_goto (t := 22) d_G_resize_18 ?_
        refine pe_v2v d_G_resize_22 c_G_56 i_G_blankFrom s_G_blankFrom rfl rfl (t_G_blankFrom_25 hB (by omega) (by omega) (by omega)) (fun σ22 hz22 => ?_)
        obtain ⟨hB, f22⟩ := hz22
        try have u22_0 : σ22 25 2 = τ 25 2 := by first | exact o22 2 (by decide) | exact congrFun (f22 25 (by decide)) 2
        try have u22_1 : σ22 25 3 = τ 25 3 := by first | exact o22 3 (by decide) | exact congrFun (f22 25 (by decide)) 3
        have hd : 1 ≤ σ22 25 2 ∧ σ22 25 2 ≤ 24 ∧ 1 ≤ σ22 25 3 ∧ σ22 25 3 ≤ 8 := by omega
        refine pe_aload_n d_G_resize_25 rfl ?_
        refine pe_iload_n d_G_resize_26 rfl ?_
        refine pe_iload_n d_G_resize_27 rfl ?_
        refine pe_iconst d_G_resize_28 ?_
        refine pe_isub d_G_resize_29 ?_
        refine pe_v2p d_G_resize_30 c_G_60 i_G_isWideAt s_G_isWideAt rfl rfl (t_G_isWideAt_25 hB (by omega) (by first | exact hB _ _ | exact hB0 _ _ | exact hBt _ _ | exact ⟨by omega, by omega⟩) (by first | exact hB _ _ | exact hB0 _ _ | exact hBt _ _ | exact ⟨by omega, by omega⟩)) (fun z30 hz30 => ?_)
        refine pe_if_eq (t := 47) d_G_resize_33 (by first | exact hB _ _ | exact hB0 _ _ | exact hBt _ _ | exact ⟨by omega, by omega⟩) (fun h33 => ?_) (fun h33 => ?_)
        · skip
          refine pe_iinc d_G_resize_47 rfl ?_
          refine pe_goto (t := 2) d_G_resize_50 ?_
          exact ih (_, _) ⟨by (try dsimp only); omega, hB, (fun b hb => (f22 b (by simp at hb ⊢; try omega)).trans (hfr b (by simp at hb ⊢; try omega)))⟩ (by (try dsimp only); omega)
        · skip
          refine pe_aload_n d_G_resize_36 rfl ?_
          refine pe_iload_n d_G_resize_37 rfl ?_
          refine pe_iload_n d_G_resize_38 rfl ?_
          refine pe_iconst d_G_resize_39 ?_
          refine pe_isub d_G_resize_40 ?_
          refine pe_bipush d_G_resize_41 ?_
          refine pe_iconst d_G_resize_43 ?_
          refine pe_v4v d_G_resize_44 c_G_52 i_G_put s_G_put rfl rfl (t_G_put_25 hB (by omega) (by first | exact hB _ _ | exact hB0 _ _ | exact hBt _ _ | exact ⟨by omega, by omega⟩) (by first | exact hB _ _ | exact hB0 _ _ | exact hBt _ _ | exact ⟨by omega, by omega⟩) (by first | exact hB _ _ | exact hB0 _ _ | exact hBt _ _ | exact ⟨by omega, by omega⟩) (by first | exact hB _ _ | exact hB0 _ _ | exact hBt _ _ | exact ⟨by omega, by omega⟩)) (fun σ44 hz44 => ?_)
          obtain ⟨hB, f44⟩ := hz44
          try have u44_0 : σ44 25 2 = σ22 25 2 := by first | exact o44 2 (by decide) | exact congrFun (f44 25 (by decide)) 2
          try have u44_1 : σ44 25 3 = σ22 25 3 := by first | exact o44 3 (by decide) | exact congrFun (f44 25 (by decide)) 3
          refine pe_iinc d_G_resize_47 rfl ?_
          refine pe_goto (t := 2) d_G_resize_50 ?_
          exact ih (_, _) ⟨by (try dsimp only); omega, hB, (fun b hb => (f44 b (by simp at hb ⊢; try omega)).trans ((f22 b (by simp at hb ⊢; try omega)).trans (hfr b (by simp at hb ⊢; try omega))))⟩ (by (try dsimp only); omega)
  refine pe_iconst d_G_resize_0 ?_
  refine pe_istore_n d_G_resize_1 ?_
  exact J2 (_, _) ⟨by (try dsimp only); omega, hB, fun _ _ => rfl⟩
