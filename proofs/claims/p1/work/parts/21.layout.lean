/-! rows, columns, widths as the class lays them -/
def pe_LI (r c w : Int → Int) : Prop := (∀ j, -1 ≤ r j ∧ r j ≤ 500) ∧ (∀ j, 0 ≤ c j ∧ c j ≤ 24) ∧ ∀ j, 0 ≤ w j ∧ w j ≤ 24
set_option maxHeartbeats 2000000 in
theorem t_L_lay {σ : pe_H} {c : Int} (hB : pe_B σ) (hl : 0 ≤ σ 3 1 ∧ σ 3 1 ≤ 200) (hL : pe_LI (σ 12) (σ 13) (σ 14)) (hc : 4 ≤ c ∧ c ≤ 24) : pe_M m_L_lay [pe_r 11, pe_r 3, pe_i c] σ (pe_qv (fun σ' => pe_B σ' ∧ (∀ b, b ∉ [12, 13, 14] → σ' b = σ b) ∧ pe_LI (σ' 12) (σ' 13) (σ' 14))) := by
  refine pe_in0 (lv := [some (pe_r 11), some (pe_r 3), some (pe_i c), none, none, none, none, none]) ?_
  have hB0 := hB
  have J8 : ∀ x : Int × Int × Int × pe_H, (pe_B x.2.2.2 ∧ (∀ b, b ∉ [12, 13, 14] → x.2.2.2 b = σ b) ∧ (∀ j, -1 ≤ x.2.2.2 12 j ∧ x.2.2.2 12 j ≤ 500) ∧ (∀ j, 0 ≤ x.2.2.2 13 j ∧ x.2.2.2 13 j ≤ 24) ∧ (∀ j, 0 ≤ x.2.2.2 14 j ∧ x.2.2.2 14 j ≤ 24) ∧ (0 ≤ x.1 ∧ x.1 ≤ 2 * x.2.2.1) ∧ (0 ≤ x.2.1 ∧ x.2.1 ≤ c) ∧ (0 ≤ x.2.2.1 ∧ x.2.2.1 ≤ σ 3 1 + 1)) → pe_G m_L_lay 8 [some (pe_r 11), some (pe_r 3), some (pe_i c), some (pe_i x.1), some (pe_i x.2.1), some (pe_i x.2.2.1), none, none] [] x.2.2.2 (pe_qv (fun σ' => pe_B σ' ∧ (∀ b, b ∉ [12, 13, 14] → σ' b = σ b) ∧ pe_LI (σ' 12) (σ' 13) (σ' 14))) := by
    refine pe_loop (fun x : Int × Int × Int × pe_H => (300 - x.2.2.1).toNat) _ _ ?_
    intro x hI ih
    obtain ⟨r, k, p, τ⟩ := x
    dsimp only at hI ⊢
    obtain ⟨hB, hfr, hX⟩ := hI
    have v_3_1 : τ 3 1 = σ 3 1 := congrFun (hfr 3 (by decide)) 1
    obtain ⟨A12, A13, A14, hX⟩ := hX
    have hBt := hB
    have J138 : ∀ x : Int × Int × pe_H, (p ≤ σ 3 1) ∧ (pe_B x.2.2 ∧ (∀ b, b ∉ [12, 13, 14] → x.2.2 b = σ b) ∧ (∀ j, -1 ≤ x.2.2 12 j ∧ x.2.2 12 j ≤ 500) ∧ (∀ j, 0 ≤ x.2.2 13 j ∧ x.2.2 13 j ≤ 24) ∧ (∀ j, 0 ≤ x.2.2 14 j ∧ x.2.2 14 j ≤ 24) ∧ (0 ≤ x.1 ∧ x.1 ≤ 2 * p + 2) ∧ (0 ≤ x.2.1 ∧ x.2.1 ≤ c)) → pe_G m_L_lay 138 [some (pe_r 11), some (pe_r 3), some (pe_i c), some (pe_i x.1), some (pe_i x.2.1), some (pe_i p), none, none] [] x.2.2 (pe_qv (fun σ' => pe_B σ' ∧ (∀ b, b ∉ [12, 13, 14] → σ' b = σ b) ∧ pe_LI (σ' 12) (σ' 13) (σ' 14))) := by
      intro x hI
      obtain ⟨r2, k2, τ2⟩ := x
      dsimp only at hI ⊢
      obtain ⟨hpp, hI⟩ := hI
      obtain ⟨hB, hfr, hX⟩ := hI
      have v_3_1 : τ2 3 1 = σ 3 1 := congrFun (hfr 3 (by decide)) 1
      obtain ⟨A12, A13, A14, hX⟩ := hX
      have hBt := hB
      refine pe_iinc d_L_lay_138 rfl ?_
      refine pe_goto (t := 8) d_L_lay_141 ?_
      exact ih (_, _, _, _) ⟨hB, (fun b hb => hfr b (by simp at hb ⊢; try omega)), A12, A13, A14, by (try dsimp only); omega⟩ (by (try dsimp only); omega)
    have J92 : ∀ x : Int × Int × Int × Int × pe_H, (p ≤ σ 3 1) ∧ (pe_B x.2.2.2.2 ∧ (∀ b, b ∉ [12, 13, 14] → x.2.2.2.2 b = σ b) ∧ (∀ j, -1 ≤ x.2.2.2.2 12 j ∧ x.2.2.2.2 12 j ≤ 500) ∧ (∀ j, 0 ≤ x.2.2.2.2 13 j ∧ x.2.2.2.2 13 j ≤ 24) ∧ (∀ j, 0 ≤ x.2.2.2.2 14 j ∧ x.2.2.2.2 14 j ≤ 24) ∧ (0 ≤ x.1 ∧ x.1 ≤ 2 * p + 1) ∧ (0 ≤ x.2.1 ∧ x.2.1 < c) ∧ (0 ≤ x.2.2.2.1 ∧ x.2.1 + x.2.2.2.1 ≤ c) ∧ (-2147483648 ≤ x.2.2.1 ∧ x.2.2.1 < 2147483648)) → pe_G m_L_lay 92 [some (pe_r 11), some (pe_r 3), some (pe_i c), some (pe_i x.1), some (pe_i x.2.1), some (pe_i p), some (pe_i x.2.2.1), some (pe_i x.2.2.2.1)] [] x.2.2.2.2 (pe_qv (fun σ' => pe_B σ' ∧ (∀ b, b ∉ [12, 13, 14] → σ' b = σ b) ∧ pe_LI (σ' 12) (σ' 13) (σ' 14))) := by
      intro x hI
      obtain ⟨r2, k2, q2, w2, τ2⟩ := x
      dsimp only at hI ⊢
      obtain ⟨hpp, hI⟩ := hI
      obtain ⟨hB, hfr, hX⟩ := hI
      have v_3_1 : τ2 3 1 = σ 3 1 := congrFun (hfr 3 (by decide)) 1
      obtain ⟨A12, A13, A14, hX⟩ := hX
      have hBt := hB
      refine pe_aload_n d_L_lay_92 rfl ?_
      refine pe_getr f_L_9 d_L_lay_93 rfl rfl ?_
      refine pe_iload d_L_lay_96 rfl ?_
      refine pe_iload_n d_L_lay_98 rfl ?_
      refine pe_iastT d_L_lay_99 rfl (by omega) (by omega) hB (by first | exact hB _ _ | exact hB0 _ _ | exact hBt _ _ | exact ⟨by omega, by omega⟩) (fun σ99 hB e99 o99 f99 => ?_)
      try have u99_0 : σ99 3 1 = τ2 3 1 := by first | exact o99 1 (by decide) | exact congrFun (f99 3 (by decide)) 1
      have A12 : ∀ j, -1 ≤ σ99 12 j ∧ σ99 12 j ≤ 500 := pe_all_up e99 o99 A12 (by omega)
      have A13 : ∀ j, 0 ≤ σ99 13 j ∧ σ99 13 j ≤ 24 := by rw [f99 13 (by decide)]; exact A13
      have A14 : ∀ j, 0 ≤ σ99 14 j ∧ σ99 14 j ≤ 24 := by rw [f99 14 (by decide)]; exact A14
      refine pe_aload_n d_L_lay_100 rfl ?_
      refine pe_getr f_L_15 d_L_lay_101 rfl rfl ?_
      refine pe_iload d_L_lay_104 rfl ?_
      refine pe_iload d_L_lay_106 rfl ?_
      refine pe_iastT d_L_lay_108 rfl (by omega) (by omega) hB (by first | exact hB _ _ | exact hB0 _ _ | exact hBt _ _ | exact ⟨by omega, by omega⟩) (fun σ108 hB e108 o108 f108 => ?_)
      try have u108_0 : σ108 3 1 = σ99 3 1 := by first | exact o108 1 (by decide) | exact congrFun (f108 3 (by decide)) 1
      have A12 : ∀ j, -1 ≤ σ108 12 j ∧ σ108 12 j ≤ 500 := by rw [f108 12 (by decide)]; exact A12
      have A13 : ∀ j, 0 ≤ σ108 13 j ∧ σ108 13 j ≤ 24 := pe_all_up e108 o108 A13 (by omega)
      have A14 : ∀ j, 0 ≤ σ108 14 j ∧ σ108 14 j ≤ 24 := by rw [f108 14 (by decide)]; exact A14
      refine pe_aload_n d_L_lay_109 rfl ?_
      refine pe_getr f_L_18 d_L_lay_110 rfl rfl ?_
      refine pe_iload d_L_lay_113 rfl ?_
      refine pe_iload d_L_lay_115 rfl ?_
      refine pe_iastT d_L_lay_117 rfl (by omega) (by omega) hB (by first | exact hB _ _ | exact hB0 _ _ | exact hBt _ _ | exact ⟨by omega, by omega⟩) (fun σ117 hB e117 o117 f117 => ?_)
      try have u117_0 : σ117 3 1 = σ108 3 1 := by first | exact o117 1 (by decide) | exact congrFun (f117 3 (by decide)) 1
      have A12 : ∀ j, -1 ≤ σ117 12 j ∧ σ117 12 j ≤ 500 := by rw [f117 12 (by decide)]; exact A12
      have A13 : ∀ j, 0 ≤ σ117 13 j ∧ σ117 13 j ≤ 24 := by rw [f117 13 (by decide)]; exact A13
      have A14 : ∀ j, 0 ≤ σ117 14 j ∧ σ117 14 j ≤ 24 := pe_all_up e117 o117 A14 (by omega)
      refine pe_iload d_L_lay_118 rfl ?_
      refine pe_iload d_L_lay_120 rfl ?_
      refine pe_iadd d_L_lay_122 ?_
      refine pe_istore d_L_lay_123 ?_
      refine pe_iload d_L_lay_125 rfl ?_
      refine pe_bipush d_L_lay_127 ?_
      refine pe_icmp_ne (t := 138) d_L_lay_129 (by first | exact hB _ _ | exact hB0 _ _ | exact hBt _ _ | exact ⟨by omega, by omega⟩) (by first | exact hB _ _ | exact hB0 _ _ | exact hBt _ _ | exact ⟨by omega, by omega⟩) (fun h129 => ?_) (fun h129 => ?_)
      · skip
        exact pe_drop 6 (pe_drop 7 (J138 (_, _, _) ⟨by omega, hB, (fun b hb => (f117 b (by simp at hb ⊢; try omega)).trans ((f108 b (by simp at hb ⊢; try omega)).trans ((f99 b (by simp at hb ⊢; try omega)).trans (hfr b (by simp at hb ⊢; try omega))))), A12, A13, A14, by (try dsimp only); omega⟩))
      · skip
        refine pe_iinc d_L_lay_132 rfl ?_
        refine pe_iconst d_L_lay_135 ?_
        refine pe_istore d_L_lay_136 ?_
        exact pe_drop 6 (pe_drop 7 (J138 (_, _, _) ⟨by omega, hB, (fun b hb => (f117 b (by simp at hb ⊢; try omega)).trans ((f108 b (by simp at hb ⊢; try omega)).trans ((f99 b (by simp at hb ⊢; try omega)).trans (hfr b (by simp at hb ⊢; try omega))))), A12, A13, A14, by (try dsimp only); omega⟩))
    have J67 : ∀ x : Int × Int × Int × Int × pe_H, (p ≤ σ 3 1) ∧ (pe_B x.2.2.2.2 ∧ (∀ b, b ∉ [12, 13, 14] → x.2.2.2.2 b = σ b) ∧ (∀ j, -1 ≤ x.2.2.2.2 12 j ∧ x.2.2.2.2 12 j ≤ 500) ∧ (∀ j, 0 ≤ x.2.2.2.2 13 j ∧ x.2.2.2.2 13 j ≤ 24) ∧ (∀ j, 0 ≤ x.2.2.2.2 14 j ∧ x.2.2.2.2 14 j ≤ 24) ∧ (0 ≤ x.1 ∧ x.1 ≤ 2 * p + 1) ∧ (0 ≤ x.2.1 ∧ x.2.1 < c) ∧ (0 ≤ x.2.2.2.1 ∧ x.2.1 + x.2.2.2.1 ≤ c) ∧ (-2147483648 ≤ x.2.2.1 ∧ x.2.2.1 < 2147483648)) → pe_G m_L_lay 67 [some (pe_r 11), some (pe_r 3), some (pe_i c), some (pe_i x.1), some (pe_i x.2.1), some (pe_i p), some (pe_i x.2.2.1), some (pe_i x.2.2.2.1)] [] x.2.2.2.2 (pe_qv (fun σ' => pe_B σ' ∧ (∀ b, b ∉ [12, 13, 14] → σ' b = σ b) ∧ pe_LI (σ' 12) (σ' 13) (σ' 14))) := by
      intro x hI
      obtain ⟨r2, k2, q2, w2, τ2⟩ := x
      dsimp only at hI ⊢
      obtain ⟨hpp, hI⟩ := hI
      obtain ⟨hB, hfr, hX⟩ := hI
      have v_3_1 : τ2 3 1 = σ 3 1 := congrFun (hfr 3 (by decide)) 1
      obtain ⟨A12, A13, A14, hX⟩ := hX
      have hBt := hB
      refine pe_iload d_L_lay_67 rfl ?_
      refine pe_bipush d_L_lay_69 ?_
      refine pe_icmp_ne (t := 92) d_L_lay_71 (by first | exact hB _ _ | exact hB0 _ _ | exact hBt _ _ | exact ⟨by omega, by omega⟩) (by first | exact hB _ _ | exact hB0 _ _ | exact hBt _ _ | exact ⟨by omega, by omega⟩) (fun h71 => ?_) (fun h71 => ?_)
      · skip
        exact J92 (_, _, _, _, _) ⟨by omega, hB, (fun b hb => hfr b (by simp at hb ⊢; try omega)), A12, A13, A14, by (try dsimp only); omega⟩
      · skip
        refine pe_iload_n d_L_lay_74 rfl ?_
        refine pe_iload d_L_lay_75 rfl ?_
        refine pe_iload d_L_lay_77 rfl ?_
        refine pe_iconst d_L_lay_79 ?_
        refine pe_iremN d_L_lay_80 (by omega) (by omega) ?_
        refine pe_isub d_L_lay_81 ?_
        refine pe_iconst d_L_lay_82 ?_
        refine pe_iadd d_L_lay_83 ?_
        refine pe_minT c_L_39 d_L_lay_84 (by first | exact hB _ _ | exact hB0 _ _ | exact hBt _ _ | exact ⟨by omega, by omega⟩) (by first | exact hB _ _ | exact hB0 _ _ | exact hBt _ _ | exact ⟨by omega, by omega⟩) (fun z84 hz84 => ?_)
        refine pe_iload d_L_lay_87 rfl ?_
        refine pe_isub d_L_lay_89 ?_
        refine pe_istore d_L_lay_90 ?_
        exact J92 (_, _, _, _, _) ⟨by omega, hB, (fun b hb => hfr b (by simp at hb ⊢; try omega)), A12, A13, A14, by (try dsimp only); omega⟩
    refine pe_iload d_L_lay_8 rfl ?_
    refine pe_aload_n d_L_lay_10 rfl ?_
    refine pe_geti f_L_21 d_L_lay_11 rfl rfl 1 rfl ?_
    refine pe_icmp_gt (t := 144) d_L_lay_14 (by first | exact hB _ _ | exact hB0 _ _ | exact hBt _ _ | exact ⟨by omega, by omega⟩) (by first | exact hB _ _ | exact hB0 _ _ | exact hBt _ _ | exact ⟨by omega, by omega⟩) (fun h14 => ?_) (fun h14 => ?_)
    · skip
      refine pe_rv d_L_lay_144 ?_
      exact ⟨hB, (fun b hb => hfr b (by simp at hb ⊢; try omega)), A12, A13, A14⟩
    · skip
      refine pe_aload_n d_L_lay_17 rfl ?_
      refine pe_getr f_L_9 d_L_lay_18 rfl rfl ?_
      refine pe_iload d_L_lay_21 rfl ?_
      refine pe_iconst d_L_lay_23 ?_
      refine pe_iastT d_L_lay_24 rfl (by omega) (by omega) hB (by first | exact hB _ _ | exact hB0 _ _ | exact hBt _ _ | exact ⟨by omega, by omega⟩) (fun σ24 hB e24 o24 f24 => ?_)
      try have u24_0 : σ24 3 1 = τ 3 1 := by first | exact o24 1 (by decide) | exact congrFun (f24 3 (by decide)) 1
      have A12 : ∀ j, -1 ≤ σ24 12 j ∧ σ24 12 j ≤ 500 := pe_all_up e24 o24 A12 (by omega)
      have A13 : ∀ j, 0 ≤ σ24 13 j ∧ σ24 13 j ≤ 24 := by rw [f24 13 (by decide)]; exact A13
      have A14 : ∀ j, 0 ≤ σ24 14 j ∧ σ24 14 j ≤ 24 := by rw [f24 14 (by decide)]; exact A14
      refine pe_aload_n d_L_lay_25 rfl ?_
      refine pe_iload d_L_lay_26 rfl ?_
      refine pe_v1p d_L_lay_28 c_L_27 i_T_isBeginning s_T_isBeginning rfl rfl (t_T_isBeginning hB (by omega) (by omega)) (fun z28 hz28 => ?_)
      refine pe_if_ne (t := 37) d_L_lay_31 (by first | exact hB _ _ | exact hB0 _ _ | exact hBt _ _ | exact ⟨by omega, by omega⟩) (fun h31 => ?_) (fun h31 => ?_)
      · skip
        refine pe_aload_n d_L_lay_37 rfl ?_
        refine pe_iload d_L_lay_38 rfl ?_
        refine pe_v1p d_L_lay_40 c_L_31 i_T_codeAt s_T_codeAt rfl rfl (t_T_codeAt hB (by first | exact hB _ _ | exact hB0 _ _ | exact hBt _ _ | exact ⟨by omega, by omega⟩) (by omega)) (fun z40 hz40 => ?_)
        have hR40 : pe_R z40 := by rw [hz40]; split <;> first | exact hB _ _ | exact ⟨by omega, by omega⟩
        refine pe_istore d_L_lay_43 ?_
        refine pe_iload d_L_lay_45 rfl ?_
        refine pe_s1p d_L_lay_47 c_L_35 z_C_widthOf (t_C_widthOf (by first | exact hB _ _ | exact hB0 _ _ | exact hBt _ _ | exact ⟨by omega, by omega⟩)) (fun z47 hz47 => ?_)
        refine pe_istore d_L_lay_50 ?_
        refine pe_iload d_L_lay_52 rfl ?_
        refine pe_iload d_L_lay_54 rfl ?_
        refine pe_iadd d_L_lay_56 ?_
        refine pe_iload_n d_L_lay_57 rfl ?_
        refine pe_icmp_le (t := 67) d_L_lay_58 (by first | exact hB _ _ | exact hB0 _ _ | exact hBt _ _ | exact ⟨by omega, by omega⟩) (by first | exact hB _ _ | exact hB0 _ _ | exact hBt _ _ | exact ⟨by omega, by omega⟩) (fun h58 => ?_) (fun h58 => ?_)
        · skip
          exact J67 (_, _, _, _, _) ⟨by omega, hB, (fun b hb => (f24 b (by simp at hb ⊢; try omega)).trans (hfr b (by simp at hb ⊢; try omega))), A12, A13, A14, by (try dsimp only); omega⟩
        · skip
          refine pe_iinc d_L_lay_61 rfl ?_
          refine pe_iconst d_L_lay_64 ?_
          refine pe_istore d_L_lay_65 ?_
          exact J67 (_, _, _, _, _) ⟨by omega, hB, (fun b hb => (f24 b (by simp at hb ⊢; try omega)).trans (hfr b (by simp at hb ⊢; try omega))), A12, A13, A14, by (try dsimp only); omega⟩
      · skip
        refine pe_goto (t := 138) d_L_lay_34 ?_
        exact pe_drop 6 (pe_drop 7 (J138 (_, _, _) ⟨by omega, hB, (fun b hb => (f24 b (by simp at hb ⊢; try omega)).trans (hfr b (by simp at hb ⊢; try omega))), A12, A13, A14, by (try dsimp only); omega⟩))
  refine pe_iconst d_L_lay_0 ?_
  refine pe_istore_n d_L_lay_1 ?_
  refine pe_iconst d_L_lay_2 ?_
  refine pe_istore d_L_lay_3 ?_
  refine pe_iconst d_L_lay_5 ?_
  refine pe_istore d_L_lay_6 ?_
  exact J8 (_, _, _, _) ⟨hB, (fun b hb => rfl), hL.1, hL.2.1, hL.2.2, by (try dsimp only); omega⟩
theorem t_L_placeIn {σ : pe_H} {r k : Int} (hB : pe_B σ) (hl : 0 ≤ σ 3 1 ∧ σ 3 1 ≤ 200) (hr : pe_R r) (hk : pe_R k) : pe_M m_L_placeIn [pe_r 11, pe_r 3, pe_i r, pe_i k] σ (pe_qp σ (fun z => -1 ≤ z ∧ z ≤ σ 3 1)) := by
  refine pe_in0 (lv := [some (pe_r 11), some (pe_r 3), some (pe_i r), some (pe_i k), none, none]) ?_
  have hB0 := hB
  have J6 : ∀ x : Int × Int, ((-1 ≤ x.1 ∧ x.1 ≤ σ 3 1) ∧ (0 ≤ x.2 ∧ x.2 ≤ σ 3 1 + 1)) → pe_G m_L_placeIn 6 [some (pe_r 11), some (pe_r 3), some (pe_i r), some (pe_i k), some (pe_i x.1), some (pe_i x.2)] [] σ (pe_qp σ (fun z => -1 ≤ z ∧ z ≤ σ 3 1)) := by
    refine pe_loop (fun x : Int × Int => (300 - x.2).toNat) _ _ ?_
    intro x hI ih
    obtain ⟨f, p⟩ := x
    dsimp only at hI ⊢
    refine pe_iload d_L_placeIn_6 rfl ?_
    refine pe_aload_n d_L_placeIn_8 rfl ?_
    refine pe_geti f_L_21 d_L_placeIn_9 rfl rfl 1 rfl ?_
    refine pe_icmp_gt (t := 57) d_L_placeIn_12 (by first | exact hB _ _ | exact hB0 _ _ | exact hBt _ _ | exact ⟨by omega, by omega⟩) (by first | exact hB _ _ | exact hB0 _ _ | exact hBt _ _ | exact ⟨by omega, by omega⟩) (fun h12 => ?_) (fun h12 => ?_)
    · skip
      refine pe_iload d_L_placeIn_57 rfl ?_
      refine pe_ri d_L_placeIn_59 ?_
      exact ⟨rfl, by (try dsimp only); omega⟩
    · skip
      refine pe_iload_n d_L_placeIn_15 rfl ?_
      refine pe_if_lt (t := 51) d_L_placeIn_16 (by first | exact hB _ _ | exact hB0 _ _ | exact hBt _ _ | exact ⟨by omega, by omega⟩) (fun h16 => ?_) (fun h16 => ?_)
      · skip
        refine pe_iinc d_L_placeIn_51 rfl ?_
        refine pe_goto (t := 6) d_L_placeIn_54 ?_
        exact ih (_, _) (by (try dsimp only); omega) (by (try dsimp only); omega)
      · skip
        refine pe_aload_n d_L_placeIn_19 rfl ?_
        refine pe_getr f_L_9 d_L_placeIn_20 rfl rfl ?_
        refine pe_iload d_L_placeIn_23 rfl ?_
        refine pe_iald d_L_placeIn_25 rfl (by omega) (by omega) ?_
        refine pe_iload_n d_L_placeIn_26 rfl ?_
        refine pe_icmp_ne (t := 51) d_L_placeIn_27 (by first | exact hB _ _ | exact hB0 _ _ | exact hBt _ _ | exact ⟨by omega, by omega⟩) (by first | exact hB _ _ | exact hB0 _ _ | exact hBt _ _ | exact ⟨by omega, by omega⟩) (fun h27 => ?_) (fun h27 => ?_)
        · skip
          refine pe_iinc d_L_placeIn_51 rfl ?_
          refine pe_goto (t := 6) d_L_placeIn_54 ?_
          exact ih (_, _) (by (try dsimp only); omega) (by (try dsimp only); omega)
        · skip
          refine pe_iload d_L_placeIn_30 rfl ?_
          refine pe_iconst d_L_placeIn_32 ?_
          refine pe_icmp_eq (t := 47) d_L_placeIn_33 (by first | exact hB _ _ | exact hB0 _ _ | exact hBt _ _ | exact ⟨by omega, by omega⟩) (by first | exact hB _ _ | exact hB0 _ _ | exact hBt _ _ | exact ⟨by omega, by omega⟩) (fun h33 => ?_) (fun h33 => ?_)
          · skip
            refine pe_iload d_L_placeIn_47 rfl ?_
            refine pe_istore d_L_placeIn_49 ?_
            refine pe_iinc d_L_placeIn_51 rfl ?_
            refine pe_goto (t := 6) d_L_placeIn_54 ?_
            exact ih (_, _) (by (try dsimp only); omega) (by (try dsimp only); omega)
          · skip
            refine pe_aload_n d_L_placeIn_36 rfl ?_
            refine pe_getr f_L_15 d_L_placeIn_37 rfl rfl ?_
            refine pe_iload d_L_placeIn_40 rfl ?_
            refine pe_iald d_L_placeIn_42 rfl (by omega) (by omega) ?_
            refine pe_iload_n d_L_placeIn_43 rfl ?_
            refine pe_icmp_gt (t := 51) d_L_placeIn_44 (by first | exact hB _ _ | exact hB0 _ _ | exact hBt _ _ | exact ⟨by omega, by omega⟩) (by first | exact hB _ _ | exact hB0 _ _ | exact hBt _ _ | exact ⟨by omega, by omega⟩) (fun h44 => ?_) (fun h44 => ?_)
            · skip
              refine pe_iinc d_L_placeIn_51 rfl ?_
              refine pe_goto (t := 6) d_L_placeIn_54 ?_
              exact ih (_, _) (by (try dsimp only); omega) (by (try dsimp only); omega)
            · skip
              refine pe_iload d_L_placeIn_47 rfl ?_
              refine pe_istore d_L_placeIn_49 ?_
              refine pe_iinc d_L_placeIn_51 rfl ?_
              refine pe_goto (t := 6) d_L_placeIn_54 ?_
              exact ih (_, _) (by (try dsimp only); omega) (by (try dsimp only); omega)
  refine pe_iconst d_L_placeIn_0 ?_
  refine pe_istore d_L_placeIn_1 ?_
  refine pe_iconst d_L_placeIn_3 ?_
  refine pe_istore d_L_placeIn_4 ?_
  exact J6 (_, _) (by (try dsimp only); omega)
