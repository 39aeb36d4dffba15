theorem pe_M.mono {y : pe_Y} {av : List pe_V} {σ : pe_H} {Q Q' : Option pe_V → pe_H → Prop} (h : pe_M y av σ Q) (hq : ∀ r σ', Q r σ' → Q' r σ') : pe_M y av σ Q' := by
  intro l D ad cA sz p e h1 h2 h3 s m args below hf happ hP hK
  obtain ⟨n, o, a1, a2, a3, ⟨⟨⟨r, σ', e1, e2, e3⟩, hF⟩, hL⟩⟩ := h l D ad cA sz p e h1 h2 h3 s m args below hf happ hP hK
  exact ⟨n, o, a1, a2, a3, ⟨⟨r, σ', e1, hq r σ' e2, e3⟩, hF⟩, hL⟩
theorem y_Q_paintRow {σ : pe_H} {r : Int} (hB : pe_B σ) (hw : 1 ≤ σ 18 2 ∧ σ 18 2 ≤ 24 ∧ 1 ≤ σ 18 3 ∧ σ 18 3 ≤ 8) (hq : σ 25 2 = σ 18 2 ∧ σ 25 3 = σ 18 3) (hr : 0 ≤ r ∧ r < σ 18 3) (hd : ((σ 23 2 = 8 ∧ σ 24 1 = 0 ∧ σ 24 2 = 0 ∧ σ 24 3 = 0 ∧ σ 24 4 = 0) ∧ ∀ j, 0 ≤ j → j < 192 → σ 26 j = 32 ∧ σ 27 j = 0)) (hg : (((σ 18 2 < 4 ∨ σ 18 3 < 2) → ∀ j, 0 ≤ j → j < 192 → σ 19 j = 32 ∧ σ 20 j = 0) ∧ (¬ (σ 18 2 < 4 ∨ σ 18 3 < 2) → (∀ j, 0 ≤ j → j < σ 18 2 → (32 ≤ σ 19 ((σ 18 3 - 1) * 24 + j) ∧ σ 19 ((σ 18 3 - 1) * 24 + j) ≤ 126) ∧ σ 20 ((σ 18 3 - 1) * 24 + j) = 1) ∧ ∀ j, 0 ≤ j → j < (σ 18 3 - 1) * 24 → σ 19 j = 32 ∧ σ 20 j = 0))) : pe_M m_Q_paintRow [pe_r 23, pe_r 18, pe_i r] σ (pe_qv (fun σ' => pe_B σ' ∧ (∀ b, b ∉ [23, 24, 26, 27, 28] → σ' b = σ b) ∧ ((r < σ 18 3 - 1 ∨ (σ 18 2 < 4 ∨ σ 18 3 < 2)) → ((σ' 23 2 = 8 ∧ σ' 24 1 = 0 ∧ σ' 24 2 = 0 ∧ σ' 24 3 = 0 ∧ σ' 24 4 = 0) ∧ ∀ j, 0 ≤ j → j < 192 → σ' 26 j = 32 ∧ σ' 27 j = 0)) ∧ (¬ (σ 18 2 < 4 ∨ σ 18 3 < 2) → r = σ 18 3 - 1 → σ' 24 1 = r ∧ (r = 1 → σ' 23 2 = 16 + σ 18 2) ∧ (r ≠ 1 → σ' 23 2 = 20 + σ 18 2)))) := by
  by_cases hs : (σ 18 2 < 4 ∨ σ 18 3 < 2)
  · refine (y_Q_paintRow0 hB hw hq hr (fun c h1 h2 => ?_)).mono (fun x σ' h => ?_)
    · have a := hg.1 hs (r * 24 + c) (by omega) (by omega)
      have b := hd.2 (r * 24 + c) (by omega) (by omega)
      omega
    · obtain ⟨rfl, rfl⟩ := h
      exact ⟨rfl, hB, fun _ _ => rfl, fun _ => hd, fun h => absurd hs h⟩
  · by_cases hl : r = σ 18 3 - 1
    · refine (y_Q_paintRow1 hB (by omega) hw hq (by omega) (fun c h1 h2 => ?_) (fun c h1 h2 => hd.2 (r * 24 + c) (by omega) (by omega)) hd.1.2).mono (fun x σ' h => ?_)
      · have a := (hg.2 hs).1 c h1 h2
        rw [← hl] at a
        exact a
      · obtain ⟨rfl, h1, h2, h3⟩ := h
        exact ⟨rfl, h1, h2, fun h => absurd h (by omega), fun _ _ => by omega⟩
    · refine (y_Q_paintRow0 hB hw hq hr (fun c h1 h2 => ?_)).mono (fun x σ' h => ?_)
      · have a := (hg.2 hs).2 (r * 24 + c) (by omega) (by omega)
        have b := hd.2 (r * 24 + c) (by omega) (by omega)
        omega
      · obtain ⟨rfl, rfl⟩ := h
        exact ⟨rfl, hB, fun _ _ => rfl, fun _ => hd, fun _ h => absurd h hl⟩
theorem y_P_draw {σ : pe_H} (hB : pe_B σ) (hF : (σ 3 1 = 0 ∧ σ 2 7 = 0 ∧ σ 2 8 = -1 ∧ σ 5 6 = 0) ∧ (σ 2 11 = 1 ∧ σ 17 2 = 0 ∧ σ 24 1 = 0 ∧ σ 24 2 = 0 ∧ σ 24 3 = 0 ∧ σ 24 4 = 0) ∧ (σ 21 1 = 0 ∧ 0 ≤ σ 21 3 ∧ σ 21 3 ≤ 16) ∧ (1 ≤ σ 18 2 ∧ σ 18 2 ≤ 24 ∧ 1 ≤ σ 18 3 ∧ σ 18 3 ≤ 8) ∧ (σ 25 2 = σ 18 2 ∧ σ 25 3 = σ 18 3)) : pe_M m_P_draw [pe_r 0] σ (pe_qi (fun z σ' => pe_B σ' ∧ (∀ b, b ∉ [2, 12, 13, 14, 17, 19, 20, 21, 22, 23, 24, 26, 27, 28] → σ' b = σ b) ∧ (((σ 18 2 < 4 ∨ σ 18 3 < 2) → z = 8) ∧ (¬ (σ 18 2 < 4 ∨ σ 18 3 < 2) → (σ 18 3 = 2 → z = 22 + σ 18 2) ∧ (σ 18 3 ≠ 2 → z = 26 + σ 18 2))))) := by
  refine pe_in0 (lv := [some (pe_r 0), none]) ?_
  have hB0 := hB
  have J35 : ∀ x : Int × pe_H, (pe_B x.2 ∧ (∀ b, b ∉ [2, 12, 13, 14, 17, 19, 20, 21, 22, 23, 24, 26, 27, 28] → x.2 b = σ b) ∧ ((x.1 < σ 18 3 ∨ (σ 18 2 < 4 ∨ σ 18 3 < 2)) → ((x.2 23 2 = 8 ∧ x.2 24 1 = 0 ∧ x.2 24 2 = 0 ∧ x.2 24 3 = 0 ∧ x.2 24 4 = 0) ∧ ∀ j, 0 ≤ j → j < 192 → x.2 26 j = 32 ∧ x.2 27 j = 0)) ∧ (¬ (σ 18 2 < 4 ∨ σ 18 3 < 2) → x.1 = σ 18 3 → x.2 24 1 = σ 18 3 - 1 ∧ (σ 18 3 = 2 → x.2 23 2 = 16 + σ 18 2) ∧ (σ 18 3 ≠ 2 → x.2 23 2 = 20 + σ 18 2)) ∧ ((((σ 18 2 < 4 ∨ σ 18 3 < 2) → ∀ j, 0 ≤ j → j < 192 → x.2 19 j = 32 ∧ x.2 20 j = 0) ∧ (¬ (σ 18 2 < 4 ∨ σ 18 3 < 2) → (∀ j, 0 ≤ j → j < σ 18 2 → (32 ≤ x.2 19 ((σ 18 3 - 1) * 24 + j) ∧ x.2 19 ((σ 18 3 - 1) * 24 + j) ≤ 126) ∧ x.2 20 ((σ 18 3 - 1) * 24 + j) = 1) ∧ ∀ j, 0 ≤ j → j < (σ 18 3 - 1) * 24 → x.2 19 j = 32 ∧ x.2 20 j = 0))) ∧ (0 ≤ x.1 ∧ x.1 ≤ σ 18 3) ∧ (x.2 17 3 = 0 ∧ x.2 17 4 = 0)) → pe_G m_P_draw 35 [some (pe_r 0), some (pe_i x.1)] [] x.2 (pe_qi (fun z σ' => pe_B σ' ∧ (∀ b, b ∉ [2, 12, 13, 14, 17, 19, 20, 21, 22, 23, 24, 26, 27, 28] → σ' b = σ b) ∧ (((σ 18 2 < 4 ∨ σ 18 3 < 2) → z = 8) ∧ (¬ (σ 18 2 < 4 ∨ σ 18 3 < 2) → (σ 18 3 = 2 → z = 22 + σ 18 2) ∧ (σ 18 3 ≠ 2 → z = 26 + σ 18 2))))) := by
    refine pe_loop (fun x : Int × pe_H => (100 - x.1).toNat) _ _ ?_
    intro x hI ih
    obtain ⟨i, τ⟩ := x
    dsimp only at hI ⊢
    obtain ⟨hB, hfr, hX⟩ := hI
    have v_18_2 : τ 18 2 = σ 18 2 := congrFun (hfr 18 (by decide)) 2
    have v_18_3 : τ 18 3 = σ 18 3 := congrFun (hfr 18 (by decide)) 3
    have v_25_2 : τ 25 2 = σ 25 2 := congrFun (hfr 25 (by decide)) 2
    have v_25_3 : τ 25 3 = σ 25 3 := congrFun (hfr 25 (by decide)) 3
    obtain ⟨hd, hf, hg, hX⟩ := hX
    have hBt := hB
    refine pe_iload_n d_P_draw_35 rfl ?_
    refine pe_aload_n d_P_draw_36 rfl ?_
    refine pe_getr f_P_39 d_P_draw_37 rfl rfl ?_
    refine pe_getr f_P_81 d_P_draw_40 rfl rfl ?_
    refine pe_geti f_P_105 d_P_draw_43 rfl rfl 3 rfl ?_
    refine pe_icmp_ge (t := 70) d_P_draw_46 (by first | exact hB _ _ | exact hB0 _ _ | exact hBt _ _ | exact ⟨by omega, by omega⟩) (by first | exact hB _ _ | exact hB0 _ _ | exact hBt _ _ | exact ⟨by omega, by omega⟩) (fun h46 => ?_) (fun h46 => ?_)
    · skip
      have key : (((σ 18 2 < 4 ∨ σ 18 3 < 2)) ∧ τ 24 1 = 0 ∧ τ 24 2 = 0 ∧ τ 24 3 = 0 ∧ τ 23 2 = 8) ∨ (¬ ((σ 18 2 < 4 ∨ σ 18 3 < 2)) ∧ τ 24 1 = σ 18 3 - 1 ∧ (σ 18 3 = 2 → τ 23 2 = 16 + σ 18 2) ∧ (σ 18 3 ≠ 2 → τ 23 2 = 20 + σ 18 2)) := by
        by_cases hsm : (σ 18 2 < 4 ∨ σ 18 3 < 2)
        · have q := (hd (Or.inr hsm)).1
          exact Or.inl ⟨hsm, by omega⟩
        · have q := hf hsm (by omega)
          exact Or.inr ⟨hsm, q⟩
      refine pe_aload_n d_P_draw_70 rfl ?_
      refine pe_getr f_P_46 d_P_draw_71 rfl rfl ?_
      refine pe_aload_n d_P_draw_74 rfl ?_
      refine pe_getr f_P_39 d_P_draw_75 rfl rfl ?_
      refine pe_geti f_P_112 d_P_draw_78 rfl rfl 3 rfl ?_
      refine pe_aload_n d_P_draw_81 rfl ?_
      refine pe_getr f_P_39 d_P_draw_82 rfl rfl ?_
      refine pe_geti f_P_115 d_P_draw_85 rfl rfl 4 rfl ?_
      refine pe_v2v d_P_draw_88 c_P_118 i_Q_makePlaceRight s_Q_makePlaceRight rfl rfl (y_Q_mpr hB (by omega) (by omega) (by omega) (by omega)) (fun σ88 hz88 => ?_)
      obtain ⟨hB, f88, x88⟩ := hz88
      try have u88_0 : σ88 2 7 = τ 2 7 := by first | exact o88 7 (by decide) | exact congrFun (f88 2 (by decide)) 7
      try have u88_1 : σ88 2 8 = τ 2 8 := by first | exact o88 8 (by decide) | exact congrFun (f88 2 (by decide)) 8
      try have u88_2 : σ88 2 11 = τ 2 11 := by first | exact o88 11 (by decide) | exact congrFun (f88 2 (by decide)) 11
      try have u88_3 : σ88 3 1 = τ 3 1 := by first | exact o88 1 (by decide) | exact congrFun (f88 3 (by decide)) 1
      try have u88_4 : σ88 17 2 = τ 17 2 := by first | exact o88 2 (by decide) | exact congrFun (f88 17 (by decide)) 2
      try have u88_5 : σ88 17 3 = τ 17 3 := by first | exact o88 3 (by decide) | exact congrFun (f88 17 (by decide)) 3
      try have u88_6 : σ88 17 4 = τ 17 4 := by first | exact o88 4 (by decide) | exact congrFun (f88 17 (by decide)) 4
      try have u88_7 : σ88 18 2 = τ 18 2 := by first | exact o88 2 (by decide) | exact congrFun (f88 18 (by decide)) 2
      try have u88_8 : σ88 18 3 = τ 18 3 := by first | exact o88 3 (by decide) | exact congrFun (f88 18 (by decide)) 3
      try have u88_9 : σ88 5 6 = τ 5 6 := by first | exact o88 6 (by decide) | exact congrFun (f88 5 (by decide)) 6
      try have u88_10 : σ88 21 1 = τ 21 1 := by first | exact o88 1 (by decide) | exact congrFun (f88 21 (by decide)) 1
      try have u88_11 : σ88 21 3 = τ 21 3 := by first | exact o88 3 (by decide) | exact congrFun (f88 21 (by decide)) 3
      try have u88_12 : σ88 24 1 = τ 24 1 := by first | exact o88 1 (by decide) | exact congrFun (f88 24 (by decide)) 1
      try have u88_13 : σ88 24 2 = τ 24 2 := by first | exact o88 2 (by decide) | exact congrFun (f88 24 (by decide)) 2
      try have u88_14 : σ88 24 3 = τ 24 3 := by first | exact o88 3 (by decide) | exact congrFun (f88 24 (by decide)) 3
      try have u88_15 : σ88 24 4 = τ 24 4 := by first | exact o88 4 (by decide) | exact congrFun (f88 24 (by decide)) 4
      try have u88_16 : σ88 25 2 = τ 25 2 := by first | exact o88 2 (by decide) | exact congrFun (f88 25 (by decide)) 2
      try have u88_17 : σ88 25 3 = τ 25 3 := by first | exact o88 3 (by decide) | exact congrFun (f88 25 (by decide)) 3
      try have u88_18 : σ88 23 2 = τ 23 2 := by first | exact o88 2 (by decide) | exact congrFun (f88 23 (by decide)) 2
      try have u88_19 : σ88 18 2 = τ 18 2 := by first | exact o88 2 (by decide) | exact congrFun (f88 18 (by decide)) 2
      try have u88_20 : σ88 18 3 = τ 18 3 := by first | exact o88 3 (by decide) | exact congrFun (f88 18 (by decide)) 3
      try have u88_21 : σ88 2 11 = τ 2 11 := by first | exact o88 11 (by decide) | exact congrFun (f88 2 (by decide)) 11
      obtain ⟨x88, d88, y88⟩ := x88
      refine pe_aload_n d_P_draw_91 rfl ?_
      refine pe_getr f_P_46 d_P_draw_92 rfl rfl ?_
      refine pe_geti f_P_121 d_P_draw_95 rfl rfl 2 rfl ?_
      refine pe_ri d_P_draw_98 ?_
      exact ⟨hB, (fun b hb => (f88 b (by simp at hb ⊢; try omega)).trans (hfr b (by simp at hb ⊢; try omega))), by omega⟩
    · skip
      refine pe_aload_n d_P_draw_49 rfl ?_
      refine pe_getr f_P_46 d_P_draw_50 rfl rfl ?_
      refine pe_aload_n d_P_draw_53 rfl ?_
      refine pe_getr f_P_39 d_P_draw_54 rfl rfl ?_
      refine pe_getr f_P_81 d_P_draw_57 rfl rfl ?_
      refine pe_iload_n d_P_draw_60 rfl ?_
      refine pe_v2v d_P_draw_61 c_P_108 i_Q_paintRow s_Q_paintRow rfl rfl (y_Q_paintRow hB (by omega) (by omega) (by omega) (hd (by omega)) (by rw [v_18_2, v_18_3]; exact hg)) (fun σ61 hz61 => ?_)
      obtain ⟨hB, f61, x61⟩ := hz61
      try have u61_0 : σ61 2 7 = τ 2 7 := by first | exact o61 7 (by decide) | exact congrFun (f61 2 (by decide)) 7
      try have u61_1 : σ61 2 8 = τ 2 8 := by first | exact o61 8 (by decide) | exact congrFun (f61 2 (by decide)) 8
      try have u61_2 : σ61 2 11 = τ 2 11 := by first | exact o61 11 (by decide) | exact congrFun (f61 2 (by decide)) 11
      try have u61_3 : σ61 3 1 = τ 3 1 := by first | exact o61 1 (by decide) | exact congrFun (f61 3 (by decide)) 1
      try have u61_4 : σ61 17 2 = τ 17 2 := by first | exact o61 2 (by decide) | exact congrFun (f61 17 (by decide)) 2
      try have u61_5 : σ61 17 3 = τ 17 3 := by first | exact o61 3 (by decide) | exact congrFun (f61 17 (by decide)) 3
      try have u61_6 : σ61 17 4 = τ 17 4 := by first | exact o61 4 (by decide) | exact congrFun (f61 17 (by decide)) 4
      try have u61_7 : σ61 18 2 = τ 18 2 := by first | exact o61 2 (by decide) | exact congrFun (f61 18 (by decide)) 2
      try have u61_8 : σ61 18 3 = τ 18 3 := by first | exact o61 3 (by decide) | exact congrFun (f61 18 (by decide)) 3
      try have u61_9 : σ61 5 6 = τ 5 6 := by first | exact o61 6 (by decide) | exact congrFun (f61 5 (by decide)) 6
      try have u61_10 : σ61 21 1 = τ 21 1 := by first | exact o61 1 (by decide) | exact congrFun (f61 21 (by decide)) 1
      try have u61_11 : σ61 21 3 = τ 21 3 := by first | exact o61 3 (by decide) | exact congrFun (f61 21 (by decide)) 3
      try have u61_12 : σ61 24 1 = τ 24 1 := by first | exact o61 1 (by decide) | exact congrFun (f61 24 (by decide)) 1
      try have u61_13 : σ61 24 2 = τ 24 2 := by first | exact o61 2 (by decide) | exact congrFun (f61 24 (by decide)) 2
      try have u61_14 : σ61 24 3 = τ 24 3 := by first | exact o61 3 (by decide) | exact congrFun (f61 24 (by decide)) 3
      try have u61_15 : σ61 24 4 = τ 24 4 := by first | exact o61 4 (by decide) | exact congrFun (f61 24 (by decide)) 4
      try have u61_16 : σ61 25 2 = τ 25 2 := by first | exact o61 2 (by decide) | exact congrFun (f61 25 (by decide)) 2
      try have u61_17 : σ61 25 3 = τ 25 3 := by first | exact o61 3 (by decide) | exact congrFun (f61 25 (by decide)) 3
      try have u61_18 : σ61 23 2 = τ 23 2 := by first | exact o61 2 (by decide) | exact congrFun (f61 23 (by decide)) 2
      try have u61_19 : σ61 18 2 = τ 18 2 := by first | exact o61 2 (by decide) | exact congrFun (f61 18 (by decide)) 2
      try have u61_20 : σ61 18 3 = τ 18 3 := by first | exact o61 3 (by decide) | exact congrFun (f61 18 (by decide)) 3
      try have u61_21 : σ61 2 11 = τ 2 11 := by first | exact o61 11 (by decide) | exact congrFun (f61 2 (by decide)) 11
      rw [v_18_2, v_18_3] at x61
      refine pe_iinc d_P_draw_64 rfl ?_
      refine pe_goto (t := 35) d_P_draw_67 ?_
      exact ih (_, _) ⟨hB, (fun b hb => (f61 b (by simp at hb ⊢; try omega)).trans (hfr b (by simp at hb ⊢; try omega))), fun h => x61.1 (by (try dsimp only at h); omega), fun h1 h2 => by (try dsimp only at h2 ⊢); have q := x61.2 (by omega) (by omega); omega, by (try dsimp only); rw [f61 19 (by decide), f61 20 (by decide)]; exact hg, by (try dsimp only); omega, by (try dsimp only); omega⟩ (by (try dsimp only); omega)
  refine pe_aload_n d_P_draw_0 rfl ?_
  refine pe_getr f_P_39 d_P_draw_1 rfl rfl ?_
  refine pe_aload_n d_P_draw_4 rfl ?_
  refine pe_getr f_P_30 d_P_draw_5 rfl rfl ?_
  refine pe_v1v d_P_draw_8 c_P_97 i_S_compose s_S_compose rfl rfl (y_S_compose hB (by omega) (by omega) (by omega) (by omega)) (fun σ8 hz8 => ?_)
  obtain ⟨hB, f8, x8⟩ := hz8
  try have u8_0 : σ8 2 7 = σ 2 7 := by first | exact o8 7 (by decide) | exact congrFun (f8 2 (by decide)) 7
  try have u8_1 : σ8 2 8 = σ 2 8 := by first | exact o8 8 (by decide) | exact congrFun (f8 2 (by decide)) 8
  try have u8_2 : σ8 2 11 = σ 2 11 := by first | exact o8 11 (by decide) | exact congrFun (f8 2 (by decide)) 11
  try have u8_3 : σ8 3 1 = σ 3 1 := by first | exact o8 1 (by decide) | exact congrFun (f8 3 (by decide)) 1
  try have u8_4 : σ8 17 2 = σ 17 2 := by first | exact o8 2 (by decide) | exact congrFun (f8 17 (by decide)) 2
  try have u8_5 : σ8 17 3 = σ 17 3 := by first | exact o8 3 (by decide) | exact congrFun (f8 17 (by decide)) 3
  try have u8_6 : σ8 17 4 = σ 17 4 := by first | exact o8 4 (by decide) | exact congrFun (f8 17 (by decide)) 4
  try have u8_7 : σ8 18 2 = σ 18 2 := by first | exact o8 2 (by decide) | exact congrFun (f8 18 (by decide)) 2
  try have u8_8 : σ8 18 3 = σ 18 3 := by first | exact o8 3 (by decide) | exact congrFun (f8 18 (by decide)) 3
  try have u8_9 : σ8 5 6 = σ 5 6 := by first | exact o8 6 (by decide) | exact congrFun (f8 5 (by decide)) 6
  try have u8_10 : σ8 21 1 = σ 21 1 := by first | exact o8 1 (by decide) | exact congrFun (f8 21 (by decide)) 1
  try have u8_11 : σ8 21 3 = σ 21 3 := by first | exact o8 3 (by decide) | exact congrFun (f8 21 (by decide)) 3
  try have u8_12 : σ8 24 1 = σ 24 1 := by first | exact o8 1 (by decide) | exact congrFun (f8 24 (by decide)) 1
  try have u8_13 : σ8 24 2 = σ 24 2 := by first | exact o8 2 (by decide) | exact congrFun (f8 24 (by decide)) 2
  try have u8_14 : σ8 24 3 = σ 24 3 := by first | exact o8 3 (by decide) | exact congrFun (f8 24 (by decide)) 3
  try have u8_15 : σ8 24 4 = σ 24 4 := by first | exact o8 4 (by decide) | exact congrFun (f8 24 (by decide)) 4
  try have u8_16 : σ8 25 2 = σ 25 2 := by first | exact o8 2 (by decide) | exact congrFun (f8 25 (by decide)) 2
  try have u8_17 : σ8 25 3 = σ 25 3 := by first | exact o8 3 (by decide) | exact congrFun (f8 25 (by decide)) 3
  try have u8_18 : σ8 23 2 = σ 23 2 := by first | exact o8 2 (by decide) | exact congrFun (f8 23 (by decide)) 2
  try have u8_19 : σ8 18 2 = σ 18 2 := by first | exact o8 2 (by decide) | exact congrFun (f8 18 (by decide)) 2
  try have u8_20 : σ8 18 3 = σ 18 3 := by first | exact o8 3 (by decide) | exact congrFun (f8 18 (by decide)) 3
  try have u8_21 : σ8 2 11 = σ 2 11 := by first | exact o8 11 (by decide) | exact congrFun (f8 2 (by decide)) 11
  have cp := x8.1
  refine pe_aload_n d_P_draw_11 rfl ?_
  refine pe_getr f_P_46 d_P_draw_12 rfl rfl ?_
  refine pe_aload_n d_P_draw_15 rfl ?_
  refine pe_getr f_P_30 d_P_draw_16 rfl rfl ?_
  refine pe_geti f_P_77 d_P_draw_19 rfl rfl 11 rfl ?_
  refine pe_v1v d_P_draw_22 c_P_101 i_Q_begin s_Q_begin rfl rfl (y_Q_begin hB (by omega)) (fun σ22 hz22 => ?_)
  obtain ⟨hB, f22, x22⟩ := hz22
  try have u22_0 : σ22 2 7 = σ8 2 7 := by first | exact o22 7 (by decide) | exact congrFun (f22 2 (by decide)) 7
  try have u22_1 : σ22 2 8 = σ8 2 8 := by first | exact o22 8 (by decide) | exact congrFun (f22 2 (by decide)) 8
  try have u22_2 : σ22 2 11 = σ8 2 11 := by first | exact o22 11 (by decide) | exact congrFun (f22 2 (by decide)) 11
  try have u22_3 : σ22 3 1 = σ8 3 1 := by first | exact o22 1 (by decide) | exact congrFun (f22 3 (by decide)) 1
  try have u22_4 : σ22 17 2 = σ8 17 2 := by first | exact o22 2 (by decide) | exact congrFun (f22 17 (by decide)) 2
  try have u22_5 : σ22 17 3 = σ8 17 3 := by first | exact o22 3 (by decide) | exact congrFun (f22 17 (by decide)) 3
  try have u22_6 : σ22 17 4 = σ8 17 4 := by first | exact o22 4 (by decide) | exact congrFun (f22 17 (by decide)) 4
  try have u22_7 : σ22 18 2 = σ8 18 2 := by first | exact o22 2 (by decide) | exact congrFun (f22 18 (by decide)) 2
  try have u22_8 : σ22 18 3 = σ8 18 3 := by first | exact o22 3 (by decide) | exact congrFun (f22 18 (by decide)) 3
  try have u22_9 : σ22 5 6 = σ8 5 6 := by first | exact o22 6 (by decide) | exact congrFun (f22 5 (by decide)) 6
  try have u22_10 : σ22 21 1 = σ8 21 1 := by first | exact o22 1 (by decide) | exact congrFun (f22 21 (by decide)) 1
  try have u22_11 : σ22 21 3 = σ8 21 3 := by first | exact o22 3 (by decide) | exact congrFun (f22 21 (by decide)) 3
  try have u22_12 : σ22 24 1 = σ8 24 1 := by first | exact o22 1 (by decide) | exact congrFun (f22 24 (by decide)) 1
  try have u22_13 : σ22 24 2 = σ8 24 2 := by first | exact o22 2 (by decide) | exact congrFun (f22 24 (by decide)) 2
  try have u22_14 : σ22 24 3 = σ8 24 3 := by first | exact o22 3 (by decide) | exact congrFun (f22 24 (by decide)) 3
  try have u22_15 : σ22 24 4 = σ8 24 4 := by first | exact o22 4 (by decide) | exact congrFun (f22 24 (by decide)) 4
  try have u22_16 : σ22 25 2 = σ8 25 2 := by first | exact o22 2 (by decide) | exact congrFun (f22 25 (by decide)) 2
  try have u22_17 : σ22 25 3 = σ8 25 3 := by first | exact o22 3 (by decide) | exact congrFun (f22 25 (by decide)) 3
  try have u22_18 : σ22 23 2 = σ8 23 2 := by first | exact o22 2 (by decide) | exact congrFun (f22 23 (by decide)) 2
  try have u22_19 : σ22 18 2 = σ8 18 2 := by first | exact o22 2 (by decide) | exact congrFun (f22 18 (by decide)) 2
  try have u22_20 : σ22 18 3 = σ8 18 3 := by first | exact o22 3 (by decide) | exact congrFun (f22 18 (by decide)) 3
  try have u22_21 : σ22 2 11 = σ8 2 11 := by first | exact o22 11 (by decide) | exact congrFun (f22 2 (by decide)) 11
  refine pe_aload_n d_P_draw_25 rfl ?_
  refine pe_getr f_P_30 d_P_draw_26 rfl rfl ?_
  refine pe_iconst d_P_draw_29 ?_
  refine pe_putzT f_P_77 g_2_11 d_P_draw_30 rfl rfl (by first | exact Or.inl rfl | exact Or.inr rfl | omega) 11 rfl hB (fun σ30 hB e30 o30 f30 => ?_)
  try have u30_0 : σ30 2 7 = σ22 2 7 := by first | exact o30 7 (by decide) | exact congrFun (f30 2 (by decide)) 7
  try have u30_1 : σ30 2 8 = σ22 2 8 := by first | exact o30 8 (by decide) | exact congrFun (f30 2 (by decide)) 8
  try have u30_2 : σ30 2 11 = σ22 2 11 := by first | exact o30 11 (by decide) | exact congrFun (f30 2 (by decide)) 11
  try have u30_3 : σ30 3 1 = σ22 3 1 := by first | exact o30 1 (by decide) | exact congrFun (f30 3 (by decide)) 1
  try have u30_4 : σ30 17 2 = σ22 17 2 := by first | exact o30 2 (by decide) | exact congrFun (f30 17 (by decide)) 2
  try have u30_5 : σ30 17 3 = σ22 17 3 := by first | exact o30 3 (by decide) | exact congrFun (f30 17 (by decide)) 3
  try have u30_6 : σ30 17 4 = σ22 17 4 := by first | exact o30 4 (by decide) | exact congrFun (f30 17 (by decide)) 4
  try have u30_7 : σ30 18 2 = σ22 18 2 := by first | exact o30 2 (by decide) | exact congrFun (f30 18 (by decide)) 2
  try have u30_8 : σ30 18 3 = σ22 18 3 := by first | exact o30 3 (by decide) | exact congrFun (f30 18 (by decide)) 3
  try have u30_9 : σ30 5 6 = σ22 5 6 := by first | exact o30 6 (by decide) | exact congrFun (f30 5 (by decide)) 6
  try have u30_10 : σ30 21 1 = σ22 21 1 := by first | exact o30 1 (by decide) | exact congrFun (f30 21 (by decide)) 1
  try have u30_11 : σ30 21 3 = σ22 21 3 := by first | exact o30 3 (by decide) | exact congrFun (f30 21 (by decide)) 3
  try have u30_12 : σ30 24 1 = σ22 24 1 := by first | exact o30 1 (by decide) | exact congrFun (f30 24 (by decide)) 1
  try have u30_13 : σ30 24 2 = σ22 24 2 := by first | exact o30 2 (by decide) | exact congrFun (f30 24 (by decide)) 2
  try have u30_14 : σ30 24 3 = σ22 24 3 := by first | exact o30 3 (by decide) | exact congrFun (f30 24 (by decide)) 3
  try have u30_15 : σ30 24 4 = σ22 24 4 := by first | exact o30 4 (by decide) | exact congrFun (f30 24 (by decide)) 4
  try have u30_16 : σ30 25 2 = σ22 25 2 := by first | exact o30 2 (by decide) | exact congrFun (f30 25 (by decide)) 2
  try have u30_17 : σ30 25 3 = σ22 25 3 := by first | exact o30 3 (by decide) | exact congrFun (f30 25 (by decide)) 3
  try have u30_18 : σ30 23 2 = σ22 23 2 := by first | exact o30 2 (by decide) | exact congrFun (f30 23 (by decide)) 2
  try have u30_19 : σ30 18 2 = σ22 18 2 := by first | exact o30 2 (by decide) | exact congrFun (f30 18 (by decide)) 2
  try have u30_20 : σ30 18 3 = σ22 18 3 := by first | exact o30 3 (by decide) | exact congrFun (f30 18 (by decide)) 3
  try have u30_21 : σ30 2 11 = σ22 2 11 := by first | exact o30 11 (by decide) | exact congrFun (f30 2 (by decide)) 11
  refine pe_iconst d_P_draw_33 ?_
  refine pe_istore_n d_P_draw_34 ?_
  exact J35 (_, _) ⟨hB, (fun b hb => (f30 b (by simp at hb ⊢; try omega)).trans ((f22 b (by simp at hb ⊢; try omega)).trans ((f8 b (by simp at hb ⊢; try omega)).trans (rfl)))), fun _ => ⟨by (try dsimp only); omega, by (try dsimp only); rw [((f30 26 (by decide)).trans (rfl)), ((f30 27 (by decide)).trans (rfl))]; exact x22.1⟩, fun _ h => by (try dsimp only at h); omega, by (try dsimp only); rw [((f30 19 (by decide)).trans ((f22 19 (by decide)).trans (rfl))), ((f30 20 (by decide)).trans ((f22 20 (by decide)).trans (rfl)))]; exact x8.2, by (try dsimp only); omega, by (try dsimp only); omega⟩
