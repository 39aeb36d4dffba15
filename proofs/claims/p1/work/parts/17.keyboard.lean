theorem t_K_isDigit {σ : pe_H} {t : Int} (ht : pe_R t) : pe_M m_K_isDigit [pe_i t] σ (pe_qp σ (fun z => z = 0 ∨ z = 1)) := by
  refine pe_in0 (lv := [some (pe_i t)]) ?_
  refine pe_iload_n d_K_isDigit_0 rfl ?_
  refine pe_bipush d_K_isDigit_1 ?_
  refine pe_icmp_lt (t := 16) d_K_isDigit_3 (by first | exact hB _ _ | exact hB0 _ _ | exact hBt _ _ | exact ⟨by omega, by omega⟩) (by first | exact hB _ _ | exact hB0 _ _ | exact hBt _ _ | exact ⟨by omega, by omega⟩) (fun h3 => ?_) (fun h3 => ?_)
  · skip
    refine pe_iconst d_K_isDigit_16 ?_
    refine pe_rz d_K_isDigit_17 (by first | exact Or.inl rfl | exact Or.inr rfl | omega) ?_
    exact ⟨rfl, by (try dsimp only); omega⟩
  · skip
    refine pe_iload_n d_K_isDigit_6 rfl ?_
    refine pe_bipush d_K_isDigit_7 ?_
    refine pe_icmp_gt (t := 16) d_K_isDigit_9 (by first | exact hB _ _ | exact hB0 _ _ | exact hBt _ _ | exact ⟨by omega, by omega⟩) (by first | exact hB _ _ | exact hB0 _ _ | exact hBt _ _ | exact ⟨by omega, by omega⟩) (fun h9 => ?_) (fun h9 => ?_)
    · skip
      refine pe_iconst d_K_isDigit_16 ?_
      refine pe_rz d_K_isDigit_17 (by first | exact Or.inl rfl | exact Or.inr rfl | omega) ?_
      exact ⟨rfl, by (try dsimp only); omega⟩
    · skip
      refine pe_iconst d_K_isDigit_12 ?_
      refine pe_goto (t := 17) d_K_isDigit_13 ?_
      refine pe_rz d_K_isDigit_17 (by first | exact Or.inl rfl | exact Or.inr rfl | omega) ?_
      exact ⟨rfl, by (try dsimp only); omega⟩
theorem t_K_isFinal {σ : pe_H} {t : Int} (ht : pe_R t) : pe_M m_K_isFinal [pe_i t] σ (pe_qp σ (fun z => z = 0 ∨ z = 1)) := by
  refine pe_in0 (lv := [some (pe_i t)]) ?_
  refine pe_iload_n d_K_isFinal_0 rfl ?_
  refine pe_bipush d_K_isFinal_1 ?_
  refine pe_icmp_lt (t := 16) d_K_isFinal_3 (by first | exact hB _ _ | exact hB0 _ _ | exact hBt _ _ | exact ⟨by omega, by omega⟩) (by first | exact hB _ _ | exact hB0 _ _ | exact hBt _ _ | exact ⟨by omega, by omega⟩) (fun h3 => ?_) (fun h3 => ?_)
  · skip
    refine pe_iconst d_K_isFinal_16 ?_
    refine pe_rz d_K_isFinal_17 (by first | exact Or.inl rfl | exact Or.inr rfl | omega) ?_
    exact ⟨rfl, by (try dsimp only); omega⟩
  · skip
    refine pe_iload_n d_K_isFinal_6 rfl ?_
    refine pe_bipush d_K_isFinal_7 ?_
    refine pe_icmp_gt (t := 16) d_K_isFinal_9 (by first | exact hB _ _ | exact hB0 _ _ | exact hBt _ _ | exact ⟨by omega, by omega⟩) (by first | exact hB _ _ | exact hB0 _ _ | exact hBt _ _ | exact ⟨by omega, by omega⟩) (fun h9 => ?_) (fun h9 => ?_)
    · skip
      refine pe_iconst d_K_isFinal_16 ?_
      refine pe_rz d_K_isFinal_17 (by first | exact Or.inl rfl | exact Or.inr rfl | omega) ?_
      exact ⟨rfl, by (try dsimp only); omega⟩
    · skip
      refine pe_iconst d_K_isFinal_12 ?_
      refine pe_goto (t := 17) d_K_isFinal_13 ?_
      refine pe_rz d_K_isFinal_17 (by first | exact Or.inl rfl | exact Or.inr rfl | omega) ?_
      exact ⟨rfl, by (try dsimp only); omega⟩
theorem t_K_goesOn {σ : pe_H} {t : Int} (hB : pe_B σ) (ht : pe_R t) : pe_M m_K_goesOn [pe_r 1, pe_i t] σ (pe_qp σ (fun z => z = 0 ∨ z = 1)) := by
  refine pe_in0 (lv := [some (pe_r 1), some (pe_i t)]) ?_
  have hB0 := hB
  refine pe_aload_n d_K_goesOn_0 rfl ?_
  refine pe_geti f_K_11 d_K_goesOn_1 rfl rfl 0 rfl ?_
  refine pe_tsw [(1, 32), (2, 44), (3, 64)] (dt := 86) d_K_goesOn_4 (by first | exact hB _ _ | exact hB0 _ _ | exact hBt _ _ | exact ⟨by omega, by omega⟩) ?_
  refine ⟨fun h4 => ?_, fun h4_0 => ?_⟩
  · show pe_G _ _ _ _ _ _
    refine pe_iload_n d_K_goesOn_32 rfl ?_
    refine pe_bipush d_K_goesOn_33 ?_
    refine pe_icmp_ne (t := 42) d_K_goesOn_35 (by first | exact hB _ _ | exact hB0 _ _ | exact hBt _ _ | exact ⟨by omega, by omega⟩) (by first | exact hB _ _ | exact hB0 _ _ | exact hBt _ _ | exact ⟨by omega, by omega⟩) (fun h35 => ?_) (fun h35 => ?_)
    · skip
      refine pe_iconst d_K_goesOn_42 ?_
      refine pe_rz d_K_goesOn_43 (by first | exact Or.inl rfl | exact Or.inr rfl | omega) ?_
      exact ⟨rfl, by (try dsimp only); omega⟩
    · skip
      refine pe_iconst d_K_goesOn_38 ?_
      refine pe_goto (t := 43) d_K_goesOn_39 ?_
      refine pe_rz d_K_goesOn_43 (by first | exact Or.inl rfl | exact Or.inr rfl | omega) ?_
      exact ⟨rfl, by (try dsimp only); omega⟩
  refine ⟨fun h4 => ?_, fun h4_1 => ?_⟩
  · show pe_G _ _ _ _ _ _
    refine pe_iload_n d_K_goesOn_44 rfl ?_
    refine pe_s1p d_K_goesOn_45 c_K_40 z_K_isDigit (t_K_isDigit (by first | exact hB _ _ | exact hB0 _ _ | exact hBt _ _ | exact ⟨by omega, by omega⟩)) (fun z45 hz45 => ?_)
    refine pe_if_ne (t := 58) d_K_goesOn_48 (by first | exact hB _ _ | exact hB0 _ _ | exact hBt _ _ | exact ⟨by omega, by omega⟩) (fun h48 => ?_) (fun h48 => ?_)
    · skip
      refine pe_iconst d_K_goesOn_58 ?_
      refine pe_goto (t := 63) d_K_goesOn_59 ?_
      refine pe_rz d_K_goesOn_63 (by first | exact Or.inl rfl | exact Or.inr rfl | omega) ?_
      exact ⟨rfl, by (try dsimp only); omega⟩
    · skip
      refine pe_iload_n d_K_goesOn_51 rfl ?_
      refine pe_s1p d_K_goesOn_52 c_K_43 z_K_isFinal (t_K_isFinal (by first | exact hB _ _ | exact hB0 _ _ | exact hBt _ _ | exact ⟨by omega, by omega⟩)) (fun z52 hz52 => ?_)
      refine pe_if_eq (t := 62) d_K_goesOn_55 (by first | exact hB _ _ | exact hB0 _ _ | exact hBt _ _ | exact ⟨by omega, by omega⟩) (fun h55 => ?_) (fun h55 => ?_)
      · skip
        refine pe_iconst d_K_goesOn_62 ?_
        refine pe_rz d_K_goesOn_63 (by first | exact Or.inl rfl | exact Or.inr rfl | omega) ?_
        exact ⟨rfl, by (try dsimp only); omega⟩
      · skip
        refine pe_iconst d_K_goesOn_58 ?_
        refine pe_goto (t := 63) d_K_goesOn_59 ?_
        refine pe_rz d_K_goesOn_63 (by first | exact Or.inl rfl | exact Or.inr rfl | omega) ?_
        exact ⟨rfl, by (try dsimp only); omega⟩
  refine ⟨fun h4 => ?_, fun h4_2 => ?_⟩
  · show pe_G _ _ _ _ _ _
    refine pe_iload_n d_K_goesOn_64 rfl ?_
    refine pe_aload_n d_K_goesOn_65 rfl ?_
    refine pe_geti f_K_46 d_K_goesOn_66 rfl rfl 4 rfl ?_
    refine pe_icmp_lt (t := 84) d_K_goesOn_69 (by first | exact hB _ _ | exact hB0 _ _ | exact hBt _ _ | exact ⟨by omega, by omega⟩) (by first | exact hB _ _ | exact hB0 _ _ | exact hBt _ _ | exact ⟨by omega, by omega⟩) (fun h69 => ?_) (fun h69 => ?_)
    · skip
      refine pe_iconst d_K_goesOn_84 ?_
      refine pe_rz d_K_goesOn_85 (by first | exact Or.inl rfl | exact Or.inr rfl | omega) ?_
      exact ⟨rfl, by (try dsimp only); omega⟩
    · skip
      refine pe_iload_n d_K_goesOn_72 rfl ?_
      refine pe_aload_n d_K_goesOn_73 rfl ?_
      refine pe_geti f_K_49 d_K_goesOn_74 rfl rfl 5 rfl ?_
      refine pe_icmp_gt (t := 84) d_K_goesOn_77 (by first | exact hB _ _ | exact hB0 _ _ | exact hBt _ _ | exact ⟨by omega, by omega⟩) (by first | exact hB _ _ | exact hB0 _ _ | exact hBt _ _ | exact ⟨by omega, by omega⟩) (fun h77 => ?_) (fun h77 => ?_)
      · skip
        refine pe_iconst d_K_goesOn_84 ?_
        refine pe_rz d_K_goesOn_85 (by first | exact Or.inl rfl | exact Or.inr rfl | omega) ?_
        exact ⟨rfl, by (try dsimp only); omega⟩
      · skip
        refine pe_iconst d_K_goesOn_80 ?_
        refine pe_goto (t := 85) d_K_goesOn_81 ?_
        refine pe_rz d_K_goesOn_85 (by first | exact Or.inl rfl | exact Or.inr rfl | omega) ?_
        exact ⟨rfl, by (try dsimp only); omega⟩
  show pe_G _ _ _ _ _ _
  refine pe_iconst d_K_goesOn_86 ?_
  refine pe_rz d_K_goesOn_87 (by first | exact Or.inl rfl | exact Or.inr rfl | omega) ?_
  exact ⟨rfl, by (try dsimp only); omega⟩
theorem t_K_giveUp {σ : pe_H} (hB : pe_B σ) : pe_M m_K_giveUp [pe_r 1] σ (pe_qi (fun z σ' => pe_B σ' ∧ (∀ b, b ∉ [1] → σ' b = σ b) ∧ pe_R z)) := by
  refine pe_in0 (lv := [some (pe_r 1), none]) ?_
  have hB0 := hB
  refine pe_aload_n d_K_giveUp_0 rfl ?_
  refine pe_geti f_K_11 d_K_giveUp_1 rfl rfl 0 rfl ?_
  refine pe_istore_n d_K_giveUp_4 ?_
  refine pe_aload_n d_K_giveUp_5 rfl ?_
  refine pe_iconst d_K_giveUp_6 ?_
  refine pe_any (fun v7 hv7 => ?_)
  refine pe_putiT f_K_11 g_1_0 d_K_giveUp_7 rfl rfl 0 rfl hB (by first | exact hB _ _ | exact hB0 _ _ | exact hBt _ _ | exact ⟨by omega, by omega⟩) (fun σ7 hB e7 o7 f7 => ?_)
  refine pe_iload_n d_K_giveUp_10 rfl ?_
  refine pe_iconst d_K_giveUp_11 ?_
  refine pe_icmp_ne (t := 18) d_K_giveUp_12 (by first | exact hB _ _ | exact hB0 _ _ | exact hBt _ _ | exact ⟨by omega, by omega⟩) (by first | exact hB _ _ | exact hB0 _ _ | exact hBt _ _ | exact ⟨by omega, by omega⟩) (fun h12 => ?_) (fun h12 => ?_)
  · skip
    refine pe_iload_n d_K_giveUp_18 rfl ?_
    refine pe_iconst d_K_giveUp_19 ?_
    refine pe_icmp_ne (t := 28) d_K_giveUp_20 (by first | exact hB _ _ | exact hB0 _ _ | exact hBt _ _ | exact ⟨by omega, by omega⟩) (by first | exact hB _ _ | exact hB0 _ _ | exact hBt _ _ | exact ⟨by omega, by omega⟩) (fun h20 => ?_) (fun h20 => ?_)
    · skip
      refine pe_iconst d_K_giveUp_28 ?_
      refine pe_ri d_K_giveUp_29 ?_
      exact ⟨hB, (fun b hb => (f7 b (by simp at hb ⊢; try omega)).trans (rfl)), by first | assumption | exact hB _ _ | exact ⟨by omega, by omega⟩⟩
    · skip
      refine pe_ldc q_K_26 d_K_giveUp_23 (z := 65533) rfl ?_
      refine pe_goto (t := 29) d_K_giveUp_25 ?_
      refine pe_ri d_K_giveUp_29 ?_
      exact ⟨hB, (fun b hb => (f7 b (by simp at hb ⊢; try omega)).trans (rfl)), by first | assumption | exact hB _ _ | exact ⟨by omega, by omega⟩⟩
  · skip
    refine pe_bipush d_K_giveUp_15 ?_
    refine pe_ri d_K_giveUp_17 ?_
    exact ⟨hB, (fun b hb => (f7 b (by simp at hb ⊢; try omega)).trans (rfl)), by first | assumption | exact hB _ _ | exact ⟨by omega, by omega⟩⟩
theorem t_K_leave {σ : pe_H} {t : Int} (hB : pe_B σ) (ht : pe_R t) : pe_M m_K_leave [pe_r 1, pe_i t] σ (pe_qi (fun z σ' => pe_B σ' ∧ (∀ b, b ∉ [1] → σ' b = σ b) ∧ pe_R z)) := by
  refine pe_in0 (lv := [some (pe_r 1), some (pe_i t)]) ?_
  have hB0 := hB
  refine pe_aload_n d_K_leave_0 rfl ?_
  refine pe_iload_n d_K_leave_1 rfl ?_
  refine pe_v1p d_K_leave_2 c_K_18 i_K_goesOn s_K_goesOn rfl rfl (t_K_goesOn hB (by first | exact hB _ _ | exact hB0 _ _ | exact hBt _ _ | exact ⟨by omega, by omega⟩)) (fun z2 hz2 => ?_)
  refine pe_if_eq (t := 12) d_K_leave_5 (by first | exact hB _ _ | exact hB0 _ _ | exact hBt _ _ | exact ⟨by omega, by omega⟩) (fun h5 => ?_) (fun h5 => ?_)
  · skip
    refine pe_aload_n d_K_leave_12 rfl ?_
    refine pe_v0i d_K_leave_13 c_K_22 i_K_giveUp s_K_giveUp rfl rfl (t_K_giveUp hB) (fun z13 σ13 hz13 => ?_)
    obtain ⟨hB, f13, x13⟩ := hz13
    have hR13 : pe_R z13 := x13
    refine pe_ri d_K_leave_16 ?_
    exact ⟨hB, (fun b hb => (f13 b (by simp at hb ⊢; try omega)).trans (rfl)), by first | assumption | exact hB _ _ | exact ⟨by omega, by omega⟩⟩
  · skip
    refine pe_iconst d_K_leave_8 ?_
    refine pe_goto (t := 16) d_K_leave_9 ?_
    refine pe_ri d_K_leave_16 ?_
    exact ⟨hB, (fun b hb => rfl), by first | assumption | exact hB _ _ | exact ⟨by omega, by omega⟩⟩
theorem t_K_beginCharacter {σ : pe_H} {t : Int} (hB : pe_B σ) (ht : pe_R t) : pe_M m_K_beginCharacter [pe_r 1, pe_i t] σ (pe_qv (fun σ' => pe_B σ' ∧ (∀ b, b ∉ [1] → σ' b = σ b))) := by
  refine pe_in0 (lv := [some (pe_r 1), some (pe_i t)]) ?_
  have hB0 := hB
  refine pe_aload_n d_K_beginCharacter_0 rfl ?_
  refine pe_iconst d_K_beginCharacter_1 ?_
  refine pe_any (fun v2 hv2 => ?_)
  refine pe_putiT f_K_11 g_1_0 d_K_beginCharacter_2 rfl rfl 0 rfl hB (by first | exact hB _ _ | exact hB0 _ _ | exact hBt _ _ | exact ⟨by omega, by omega⟩) (fun σ2 hB e2 o2 f2 => ?_)
  refine pe_aload_n d_K_beginCharacter_5 rfl ?_
  refine pe_iload_n d_K_beginCharacter_6 rfl ?_
  refine pe_sipush d_K_beginCharacter_7 ?_
  refine pe_icmp_ge (t := 17) d_K_beginCharacter_10 (by first | exact hB _ _ | exact hB0 _ _ | exact hBt _ _ | exact ⟨by omega, by omega⟩) (by first | exact hB _ _ | exact hB0 _ _ | exact hBt _ _ | exact ⟨by omega, by omega⟩) (fun h10 => ?_) (fun h10 => ?_)
  · skip
    refine pe_iconst d_K_beginCharacter_17 ?_
    refine pe_any (fun v18 hv18 => ?_)
    refine pe_putiT f_K_56 g_1_3 d_K_beginCharacter_18 rfl rfl 3 rfl hB (by first | exact hB _ _ | exact hB0 _ _ | exact hBt _ _ | exact ⟨by omega, by omega⟩) (fun σ18 hB e18 o18 f18 => ?_)
    refine pe_aload_n d_K_beginCharacter_21 rfl ?_
    refine pe_iload_n d_K_beginCharacter_22 rfl ?_
    refine pe_sipush d_K_beginCharacter_23 ?_
    refine pe_icmp_ge (t := 36) d_K_beginCharacter_26 (by first | exact hB _ _ | exact hB0 _ _ | exact hBt _ _ | exact ⟨by omega, by omega⟩) (by first | exact hB _ _ | exact hB0 _ _ | exact hBt _ _ | exact ⟨by omega, by omega⟩) (fun h26 => ?_) (fun h26 => ?_)
    · skip
      refine pe_iload_n d_K_beginCharacter_36 rfl ?_
      refine pe_bipush d_K_beginCharacter_37 ?_
      refine pe_iand d_K_beginCharacter_39 (Int32.ofInt_toInt _).symm ?_
      refine pe_any (fun y39 hy39 => ?_)
      refine pe_any (fun v40 hv40 => ?_)
      refine pe_putiT f_K_59 g_1_2 d_K_beginCharacter_40 rfl rfl 2 rfl hB (by first | exact hB _ _ | exact hB0 _ _ | exact hBt _ _ | exact ⟨by omega, by omega⟩) (fun σ40 hB e40 o40 f40 => ?_)
      refine pe_aload_n d_K_beginCharacter_43 rfl ?_
      refine pe_iload_n d_K_beginCharacter_44 rfl ?_
      refine pe_sipush d_K_beginCharacter_45 ?_
      refine pe_icmp_ne (t := 57) d_K_beginCharacter_48 (by first | exact hB _ _ | exact hB0 _ _ | exact hBt _ _ | exact ⟨by omega, by omega⟩) (by first | exact hB _ _ | exact hB0 _ _ | exact hBt _ _ | exact ⟨by omega, by omega⟩) (fun h48 => ?_) (fun h48 => ?_)
      · skip
        refine pe_sipush d_K_beginCharacter_57 ?_
        refine pe_any (fun v60 hv60 => ?_)
        refine pe_putiT f_K_46 g_1_4 d_K_beginCharacter_60 rfl rfl 4 rfl hB (by first | exact hB _ _ | exact hB0 _ _ | exact hBt _ _ | exact ⟨by omega, by omega⟩) (fun σ60 hB e60 o60 f60 => ?_)
        refine pe_aload_n d_K_beginCharacter_63 rfl ?_
        refine pe_iload_n d_K_beginCharacter_64 rfl ?_
        refine pe_sipush d_K_beginCharacter_65 ?_
        refine pe_icmp_ne (t := 77) d_K_beginCharacter_68 (by first | exact hB _ _ | exact hB0 _ _ | exact hBt _ _ | exact ⟨by omega, by omega⟩) (by first | exact hB _ _ | exact hB0 _ _ | exact hBt _ _ | exact ⟨by omega, by omega⟩) (fun h68 => ?_) (fun h68 => ?_)
        · skip
          refine pe_sipush d_K_beginCharacter_77 ?_
          refine pe_any (fun v80 hv80 => ?_)
          refine pe_putiT f_K_49 g_1_5 d_K_beginCharacter_80 rfl rfl 5 rfl hB (by first | exact hB _ _ | exact hB0 _ _ | exact hBt _ _ | exact ⟨by omega, by omega⟩) (fun σ80 hB e80 o80 f80 => ?_)
          refine pe_rv d_K_beginCharacter_83 ?_
          exact ⟨hB, (fun b hb => (f80 b (by simp at hb ⊢; try omega)).trans ((f60 b (by simp at hb ⊢; try omega)).trans ((f40 b (by simp at hb ⊢; try omega)).trans ((f18 b (by simp at hb ⊢; try omega)).trans ((f2 b (by simp at hb ⊢; try omega)).trans (rfl))))))⟩
        · skip
          refine pe_sipush d_K_beginCharacter_71 ?_
          refine pe_goto (t := 80) d_K_beginCharacter_74 ?_
          refine pe_any (fun v80 hv80 => ?_)
          refine pe_putiT f_K_49 g_1_5 d_K_beginCharacter_80 rfl rfl 5 rfl hB (by first | exact hB _ _ | exact hB0 _ _ | exact hBt _ _ | exact ⟨by omega, by omega⟩) (fun σ80 hB e80 o80 f80 => ?_)
          refine pe_rv d_K_beginCharacter_83 ?_
          exact ⟨hB, (fun b hb => (f80 b (by simp at hb ⊢; try omega)).trans ((f60 b (by simp at hb ⊢; try omega)).trans ((f40 b (by simp at hb ⊢; try omega)).trans ((f18 b (by simp at hb ⊢; try omega)).trans ((f2 b (by simp at hb ⊢; try omega)).trans (rfl))))))⟩
      · skip
        refine pe_sipush d_K_beginCharacter_51 ?_
        refine pe_goto (t := 60) d_K_beginCharacter_54 ?_
        refine pe_any (fun v60 hv60 => ?_)
        refine pe_putiT f_K_46 g_1_4 d_K_beginCharacter_60 rfl rfl 4 rfl hB (by first | exact hB _ _ | exact hB0 _ _ | exact hBt _ _ | exact ⟨by omega, by omega⟩) (fun σ60 hB e60 o60 f60 => ?_)
        refine pe_aload_n d_K_beginCharacter_63 rfl ?_
        refine pe_iload_n d_K_beginCharacter_64 rfl ?_
        refine pe_sipush d_K_beginCharacter_65 ?_
        refine pe_icmp_ne (t := 77) d_K_beginCharacter_68 (by first | exact hB _ _ | exact hB0 _ _ | exact hBt _ _ | exact ⟨by omega, by omega⟩) (by first | exact hB _ _ | exact hB0 _ _ | exact hBt _ _ | exact ⟨by omega, by omega⟩) (fun h68 => ?_) (fun h68 => ?_)
        · skip
          refine pe_sipush d_K_beginCharacter_77 ?_
          refine pe_any (fun v80 hv80 => ?_)
          refine pe_putiT f_K_49 g_1_5 d_K_beginCharacter_80 rfl rfl 5 rfl hB (by first | exact hB _ _ | exact hB0 _ _ | exact hBt _ _ | exact ⟨by omega, by omega⟩) (fun σ80 hB e80 o80 f80 => ?_)
          refine pe_rv d_K_beginCharacter_83 ?_
          exact ⟨hB, (fun b hb => (f80 b (by simp at hb ⊢; try omega)).trans ((f60 b (by simp at hb ⊢; try omega)).trans ((f40 b (by simp at hb ⊢; try omega)).trans ((f18 b (by simp at hb ⊢; try omega)).trans ((f2 b (by simp at hb ⊢; try omega)).trans (rfl))))))⟩
        · skip
          refine pe_sipush d_K_beginCharacter_71 ?_
          refine pe_goto (t := 80) d_K_beginCharacter_74 ?_
          refine pe_any (fun v80 hv80 => ?_)
          refine pe_putiT f_K_49 g_1_5 d_K_beginCharacter_80 rfl rfl 5 rfl hB (by first | exact hB _ _ | exact hB0 _ _ | exact hBt _ _ | exact ⟨by omega, by omega⟩) (fun σ80 hB e80 o80 f80 => ?_)
          refine pe_rv d_K_beginCharacter_83 ?_
          exact ⟨hB, (fun b hb => (f80 b (by simp at hb ⊢; try omega)).trans ((f60 b (by simp at hb ⊢; try omega)).trans ((f40 b (by simp at hb ⊢; try omega)).trans ((f18 b (by simp at hb ⊢; try omega)).trans ((f2 b (by simp at hb ⊢; try omega)).trans (rfl))))))⟩
    · skip
      refine pe_iload_n d_K_beginCharacter_29 rfl ?_
      refine pe_bipush d_K_beginCharacter_30 ?_
      refine pe_iand d_K_beginCharacter_32 (Int32.ofInt_toInt _).symm ?_
      refine pe_any (fun y32 hy32 => ?_)
      refine pe_goto (t := 40) d_K_beginCharacter_33 ?_
      refine pe_any (fun v40 hv40 => ?_)
      refine pe_putiT f_K_59 g_1_2 d_K_beginCharacter_40 rfl rfl 2 rfl hB (by first | exact hB _ _ | exact hB0 _ _ | exact hBt _ _ | exact ⟨by omega, by omega⟩) (fun σ40 hB e40 o40 f40 => ?_)
      refine pe_aload_n d_K_beginCharacter_43 rfl ?_
      refine pe_iload_n d_K_beginCharacter_44 rfl ?_
      refine pe_sipush d_K_beginCharacter_45 ?_
      refine pe_icmp_ne (t := 57) d_K_beginCharacter_48 (by first | exact hB _ _ | exact hB0 _ _ | exact hBt _ _ | exact ⟨by omega, by omega⟩) (by first | exact hB _ _ | exact hB0 _ _ | exact hBt _ _ | exact ⟨by omega, by omega⟩) (fun h48 => ?_) (fun h48 => ?_)
      · skip
        refine pe_sipush d_K_beginCharacter_57 ?_
        refine pe_any (fun v60 hv60 => ?_)
        refine pe_putiT f_K_46 g_1_4 d_K_beginCharacter_60 rfl rfl 4 rfl hB (by first | exact hB _ _ | exact hB0 _ _ | exact hBt _ _ | exact ⟨by omega, by omega⟩) (fun σ60 hB e60 o60 f60 => ?_)
        refine pe_aload_n d_K_beginCharacter_63 rfl ?_
        refine pe_iload_n d_K_beginCharacter_64 rfl ?_
        refine pe_sipush d_K_beginCharacter_65 ?_
        refine pe_icmp_ne (t := 77) d_K_beginCharacter_68 (by first | exact hB _ _ | exact hB0 _ _ | exact hBt _ _ | exact ⟨by omega, by omega⟩) (by first | exact hB _ _ | exact hB0 _ _ | exact hBt _ _ | exact ⟨by omega, by omega⟩) (fun h68 => ?_) (fun h68 => ?_)
        · skip
          refine pe_sipush d_K_beginCharacter_77 ?_
          refine pe_any (fun v80 hv80 => ?_)
          refine pe_putiT f_K_49 g_1_5 d_K_beginCharacter_80 rfl rfl 5 rfl hB (by first | exact hB _ _ | exact hB0 _ _ | exact hBt _ _ | exact ⟨by omega, by omega⟩) (fun σ80 hB e80 o80 f80 => ?_)
          refine pe_rv d_K_beginCharacter_83 ?_
          exact ⟨hB, (fun b hb => (f80 b (by simp at hb ⊢; try omega)).trans ((f60 b (by simp at hb ⊢; try omega)).trans ((f40 b (by simp at hb ⊢; try omega)).trans ((f18 b (by simp at hb ⊢; try omega)).trans ((f2 b (by simp at hb ⊢; try omega)).trans (rfl))))))⟩
        · skip
          refine pe_sipush d_K_beginCharacter_71 ?_
          refine pe_goto (t := 80) d_K_beginCharacter_74 ?_
          refine pe_any (fun v80 hv80 => ?_)
          refine pe_putiT f_K_49 g_1_5 d_K_beginCharacter_80 rfl rfl 5 rfl hB (by first | exact hB _ _ | exact hB0 _ _ | exact hBt _ _ | exact ⟨by omega, by omega⟩) (fun σ80 hB e80 o80 f80 => ?_)
          refine pe_rv d_K_beginCharacter_83 ?_
          exact ⟨hB, (fun b hb => (f80 b (by simp at hb ⊢; try omega)).trans ((f60 b (by simp at hb ⊢; try omega)).trans ((f40 b (by simp at hb ⊢; try omega)).trans ((f18 b (by simp at hb ⊢; try omega)).trans ((f2 b (by simp at hb ⊢; try omega)).trans (rfl))))))⟩
      · skip
        refine pe_sipush d_K_beginCharacter_51 ?_
        refine pe_goto (t := 60) d_K_beginCharacter_54 ?_
        refine pe_any (fun v60 hv60 => ?_)
        refine pe_putiT f_K_46 g_1_4 d_K_beginCharacter_60 rfl rfl 4 rfl hB (by first | exact hB _ _ | exact hB0 _ _ | exact hBt _ _ | exact ⟨by omega, by omega⟩) (fun σ60 hB e60 o60 f60 => ?_)
        refine pe_aload_n d_K_beginCharacter_63 rfl ?_
        refine pe_iload_n d_K_beginCharacter_64 rfl ?_
        refine pe_sipush d_K_beginCharacter_65 ?_
        refine pe_icmp_ne (t := 77) d_K_beginCharacter_68 (by first | exact hB _ _ | exact hB0 _ _ | exact hBt _ _ | exact ⟨by omega, by omega⟩) (by first | exact hB _ _ | exact hB0 _ _ | exact hBt _ _ | exact ⟨by omega, by omega⟩) (fun h68 => ?_) (fun h68 => ?_)
        · skip
          refine pe_sipush d_K_beginCharacter_77 ?_
          refine pe_any (fun v80 hv80 => ?_)
          refine pe_putiT f_K_49 g_1_5 d_K_beginCharacter_80 rfl rfl 5 rfl hB (by first | exact hB _ _ | exact hB0 _ _ | exact hBt _ _ | exact ⟨by omega, by omega⟩) (fun σ80 hB e80 o80 f80 => ?_)
          refine pe_rv d_K_beginCharacter_83 ?_
          exact ⟨hB, (fun b hb => (f80 b (by simp at hb ⊢; try omega)).trans ((f60 b (by simp at hb ⊢; try omega)).trans ((f40 b (by simp at hb ⊢; try omega)).trans ((f18 b (by simp at hb ⊢; try omega)).trans ((f2 b (by simp at hb ⊢; try omega)).trans (rfl))))))⟩
        · skip
          refine pe_sipush d_K_beginCharacter_71 ?_
          refine pe_goto (t := 80) d_K_beginCharacter_74 ?_
          refine pe_any (fun v80 hv80 => ?_)
          refine pe_putiT f_K_49 g_1_5 d_K_beginCharacter_80 rfl rfl 5 rfl hB (by first | exact hB _ _ | exact hB0 _ _ | exact hBt _ _ | exact ⟨by omega, by omega⟩) (fun σ80 hB e80 o80 f80 => ?_)
          refine pe_rv d_K_beginCharacter_83 ?_
          exact ⟨hB, (fun b hb => (f80 b (by simp at hb ⊢; try omega)).trans ((f60 b (by simp at hb ⊢; try omega)).trans ((f40 b (by simp at hb ⊢; try omega)).trans ((f18 b (by simp at hb ⊢; try omega)).trans ((f2 b (by simp at hb ⊢; try omega)).trans (rfl))))))⟩
  · skip
    refine pe_iconst d_K_beginCharacter_13 ?_
    refine pe_goto (t := 18) d_K_beginCharacter_14 ?_
    refine pe_any (fun v18 hv18 => ?_)
    refine pe_putiT f_K_56 g_1_3 d_K_beginCharacter_18 rfl rfl 3 rfl hB (by first | exact hB _ _ | exact hB0 _ _ | exact hBt _ _ | exact ⟨by omega, by omega⟩) (fun σ18 hB e18 o18 f18 => ?_)
    refine pe_aload_n d_K_beginCharacter_21 rfl ?_
    refine pe_iload_n d_K_beginCharacter_22 rfl ?_
    refine pe_sipush d_K_beginCharacter_23 ?_
    refine pe_icmp_ge (t := 36) d_K_beginCharacter_26 (by first | exact hB _ _ | exact hB0 _ _ | exact hBt _ _ | exact ⟨by omega, by omega⟩) (by first | exact hB _ _ | exact hB0 _ _ | exact hBt _ _ | exact ⟨by omega, by omega⟩) (fun h26 => ?_) (fun h26 => ?_)
    · skip
      refine pe_iload_n d_K_beginCharacter_36 rfl ?_
      refine pe_bipush d_K_beginCharacter_37 ?_
      refine pe_iand d_K_beginCharacter_39 (Int32.ofInt_toInt _).symm ?_
      refine pe_any (fun y39 hy39 => ?_)
      refine pe_any (fun v40 hv40 => ?_)
      refine pe_putiT f_K_59 g_1_2 d_K_beginCharacter_40 rfl rfl 2 rfl hB (by first | exact hB _ _ | exact hB0 _ _ | exact hBt _ _ | exact ⟨by omega, by omega⟩) (fun σ40 hB e40 o40 f40 => ?_)
      refine pe_aload_n d_K_beginCharacter_43 rfl ?_
      refine pe_iload_n d_K_beginCharacter_44 rfl ?_
      refine pe_sipush d_K_beginCharacter_45 ?_
      refine pe_icmp_ne (t := 57) d_K_beginCharacter_48 (by first | exact hB _ _ | exact hB0 _ _ | exact hBt _ _ | exact ⟨by omega, by omega⟩) (by first | exact hB _ _ | exact hB0 _ _ | exact hBt _ _ | exact ⟨by omega, by omega⟩) (fun h48 => ?_) (fun h48 => ?_)
      · skip
        refine pe_sipush d_K_beginCharacter_57 ?_
        refine pe_any (fun v60 hv60 => ?_)
        refine pe_putiT f_K_46 g_1_4 d_K_beginCharacter_60 rfl rfl 4 rfl hB (by first | exact hB _ _ | exact hB0 _ _ | exact hBt _ _ | exact ⟨by omega, by omega⟩) (fun σ60 hB e60 o60 f60 => ?_)
        refine pe_aload_n d_K_beginCharacter_63 rfl ?_
        refine pe_iload_n d_K_beginCharacter_64 rfl ?_
        refine pe_sipush d_K_beginCharacter_65 ?_
        refine pe_icmp_ne (t := 77) d_K_beginCharacter_68 (by first | exact hB _ _ | exact hB0 _ _ | exact hBt _ _ | exact ⟨by omega, by omega⟩) (by first | exact hB _ _ | exact hB0 _ _ | exact hBt _ _ | exact ⟨by omega, by omega⟩) (fun h68 => ?_) (fun h68 => ?_)
        · skip
          refine pe_sipush d_K_beginCharacter_77 ?_
          refine pe_any (fun v80 hv80 => ?_)
          refine pe_putiT f_K_49 g_1_5 d_K_beginCharacter_80 rfl rfl 5 rfl hB (by first | exact hB _ _ | exact hB0 _ _ | exact hBt _ _ | exact ⟨by omega, by omega⟩) (fun σ80 hB e80 o80 f80 => ?_)
          refine pe_rv d_K_beginCharacter_83 ?_
          exact ⟨hB, (fun b hb => (f80 b (by simp at hb ⊢; try omega)).trans ((f60 b (by simp at hb ⊢; try omega)).trans ((f40 b (by simp at hb ⊢; try omega)).trans ((f18 b (by simp at hb ⊢; try omega)).trans ((f2 b (by simp at hb ⊢; try omega)).trans (rfl))))))⟩
        · skip
          refine pe_sipush d_K_beginCharacter_71 ?_
          refine pe_goto (t := 80) d_K_beginCharacter_74 ?_
          refine pe_any (fun v80 hv80 => ?_)
          refine pe_putiT f_K_49 g_1_5 d_K_beginCharacter_80 rfl rfl 5 rfl hB (by first | exact hB _ _ | exact hB0 _ _ | exact hBt _ _ | exact ⟨by omega, by omega⟩) (fun σ80 hB e80 o80 f80 => ?_)
          refine pe_rv d_K_beginCharacter_83 ?_
          exact ⟨hB, (fun b hb => (f80 b (by simp at hb ⊢; try omega)).trans ((f60 b (by simp at hb ⊢; try omega)).trans ((f40 b (by simp at hb ⊢; try omega)).trans ((f18 b (by simp at hb ⊢; try omega)).trans ((f2 b (by simp at hb ⊢; try omega)).trans (rfl))))))⟩
      · skip
        refine pe_sipush d_K_beginCharacter_51 ?_
        refine pe_goto (t := 60) d_K_beginCharacter_54 ?_
        refine pe_any (fun v60 hv60 => ?_)
        refine pe_putiT f_K_46 g_1_4 d_K_beginCharacter_60 rfl rfl 4 rfl hB (by first | exact hB _ _ | exact hB0 _ _ | exact hBt _ _ | exact ⟨by omega, by omega⟩) (fun σ60 hB e60 o60 f60 => ?_)
        refine pe_aload_n d_K_beginCharacter_63 rfl ?_
        refine pe_iload_n d_K_beginCharacter_64 rfl ?_
        refine pe_sipush d_K_beginCharacter_65 ?_
        refine pe_icmp_ne (t := 77) d_K_beginCharacter_68 (by first | exact hB _ _ | exact hB0 _ _ | exact hBt _ _ | exact ⟨by omega, by omega⟩) (by first | exact hB _ _ | exact hB0 _ _ | exact hBt _ _ | exact ⟨by omega, by omega⟩) (fun h68 => ?_) (fun h68 => ?_)
        · skip
          refine pe_sipush d_K_beginCharacter_77 ?_
          refine pe_any (fun v80 hv80 => ?_)
          refine pe_putiT f_K_49 g_1_5 d_K_beginCharacter_80 rfl rfl 5 rfl hB (by first | exact hB _ _ | exact hB0 _ _ | exact hBt _ _ | exact ⟨by omega, by omega⟩) (fun σ80 hB e80 o80 f80 => ?_)
          refine pe_rv d_K_beginCharacter_83 ?_
          exact ⟨hB, (fun b hb => (f80 b (by simp at hb ⊢; try omega)).trans ((f60 b (by simp at hb ⊢; try omega)).trans ((f40 b (by simp at hb ⊢; try omega)).trans ((f18 b (by simp at hb ⊢; try omega)).trans ((f2 b (by simp at hb ⊢; try omega)).trans (rfl))))))⟩
        · skip
          refine pe_sipush d_K_beginCharacter_71 ?_
          refine pe_goto (t := 80) d_K_beginCharacter_74 ?_
          refine pe_any (fun v80 hv80 => ?_)
          refine pe_putiT f_K_49 g_1_5 d_K_beginCharacter_80 rfl rfl 5 rfl hB (by first | exact hB _ _ | exact hB0 _ _ | exact hBt _ _ | exact ⟨by omega, by omega⟩) (fun σ80 hB e80 o80 f80 => ?_)
          refine pe_rv d_K_beginCharacter_83 ?_
          exact ⟨hB, (fun b hb => (f80 b (by simp at hb ⊢; try omega)).trans ((f60 b (by simp at hb ⊢; try omega)).trans ((f40 b (by simp at hb ⊢; try omega)).trans ((f18 b (by simp at hb ⊢; try omega)).trans ((f2 b (by simp at hb ⊢; try omega)).trans (rfl))))))⟩
    · skip
      refine pe_iload_n d_K_beginCharacter_29 rfl ?_
      refine pe_bipush d_K_beginCharacter_30 ?_
      refine pe_iand d_K_beginCharacter_32 (Int32.ofInt_toInt _).symm ?_
      refine pe_any (fun y32 hy32 => ?_)
      refine pe_goto (t := 40) d_K_beginCharacter_33 ?_
      refine pe_any (fun v40 hv40 => ?_)
      refine pe_putiT f_K_59 g_1_2 d_K_beginCharacter_40 rfl rfl 2 rfl hB (by first | exact hB _ _ | exact hB0 _ _ | exact hBt _ _ | exact ⟨by omega, by omega⟩) (fun σ40 hB e40 o40 f40 => ?_)
      refine pe_aload_n d_K_beginCharacter_43 rfl ?_
      refine pe_iload_n d_K_beginCharacter_44 rfl ?_
      refine pe_sipush d_K_beginCharacter_45 ?_
      refine pe_icmp_ne (t := 57) d_K_beginCharacter_48 (by first | exact hB _ _ | exact hB0 _ _ | exact hBt _ _ | exact ⟨by omega, by omega⟩) (by first | exact hB _ _ | exact hB0 _ _ | exact hBt _ _ | exact ⟨by omega, by omega⟩) (fun h48 => ?_) (fun h48 => ?_)
      · skip
        refine pe_sipush d_K_beginCharacter_57 ?_
        refine pe_any (fun v60 hv60 => ?_)
        refine pe_putiT f_K_46 g_1_4 d_K_beginCharacter_60 rfl rfl 4 rfl hB (by first | exact hB _ _ | exact hB0 _ _ | exact hBt _ _ | exact ⟨by omega, by omega⟩) (fun σ60 hB e60 o60 f60 => ?_)
        refine pe_aload_n d_K_beginCharacter_63 rfl ?_
        refine pe_iload_n d_K_beginCharacter_64 rfl ?_
        refine pe_sipush d_K_beginCharacter_65 ?_
        refine pe_icmp_ne (t := 77) d_K_beginCharacter_68 (by first | exact hB _ _ | exact hB0 _ _ | exact hBt _ _ | exact ⟨by omega, by omega⟩) (by first | exact hB _ _ | exact hB0 _ _ | exact hBt _ _ | exact ⟨by omega, by omega⟩) (fun h68 => ?_) (fun h68 => ?_)
        · skip
          refine pe_sipush d_K_beginCharacter_77 ?_
          refine pe_any (fun v80 hv80 => ?_)
          refine pe_putiT f_K_49 g_1_5 d_K_beginCharacter_80 rfl rfl 5 rfl hB (by first | exact hB _ _ | exact hB0 _ _ | exact hBt _ _ | exact ⟨by omega, by omega⟩) (fun σ80 hB e80 o80 f80 => ?_)
          refine pe_rv d_K_beginCharacter_83 ?_
          exact ⟨hB, (fun b hb => (f80 b (by simp at hb ⊢; try omega)).trans ((f60 b (by simp at hb ⊢; try omega)).trans ((f40 b (by simp at hb ⊢; try omega)).trans ((f18 b (by simp at hb ⊢; try omega)).trans ((f2 b (by simp at hb ⊢; try omega)).trans (rfl))))))⟩
        · skip
          refine pe_sipush d_K_beginCharacter_71 ?_
          refine pe_goto (t := 80) d_K_beginCharacter_74 ?_
          refine pe_any (fun v80 hv80 => ?_)
          refine pe_putiT f_K_49 g_1_5 d_K_beginCharacter_80 rfl rfl 5 rfl hB (by first | exact hB _ _ | exact hB0 _ _ | exact hBt _ _ | exact ⟨by omega, by omega⟩) (fun σ80 hB e80 o80 f80 => ?_)
          refine pe_rv d_K_beginCharacter_83 ?_
          exact ⟨hB, (fun b hb => (f80 b (by simp at hb ⊢; try omega)).trans ((f60 b (by simp at hb ⊢; try omega)).trans ((f40 b (by simp at hb ⊢; try omega)).trans ((f18 b (by simp at hb ⊢; try omega)).trans ((f2 b (by simp at hb ⊢; try omega)).trans (rfl))))))⟩
      · skip
        refine pe_sipush d_K_beginCharacter_51 ?_
        refine pe_goto (t := 60) d_K_beginCharacter_54 ?_
        refine pe_any (fun v60 hv60 => ?_)
        refine pe_putiT f_K_46 g_1_4 d_K_beginCharacter_60 rfl rfl 4 rfl hB (by first | exact hB _ _ | exact hB0 _ _ | exact hBt _ _ | exact ⟨by omega, by omega⟩) (fun σ60 hB e60 o60 f60 => ?_)
        refine pe_aload_n d_K_beginCharacter_63 rfl ?_
        refine pe_iload_n d_K_beginCharacter_64 rfl ?_
        refine pe_sipush d_K_beginCharacter_65 ?_
        refine pe_icmp_ne (t := 77) d_K_beginCharacter_68 (by first | exact hB _ _ | exact hB0 _ _ | exact hBt _ _ | exact ⟨by omega, by omega⟩) (by first | exact hB _ _ | exact hB0 _ _ | exact hBt _ _ | exact ⟨by omega, by omega⟩) (fun h68 => ?_) (fun h68 => ?_)
        · skip
          refine pe_sipush d_K_beginCharacter_77 ?_
          refine pe_any (fun v80 hv80 => ?_)
          refine pe_putiT f_K_49 g_1_5 d_K_beginCharacter_80 rfl rfl 5 rfl hB (by first | exact hB _ _ | exact hB0 _ _ | exact hBt _ _ | exact ⟨by omega, by omega⟩) (fun σ80 hB e80 o80 f80 => ?_)
          refine pe_rv d_K_beginCharacter_83 ?_
          exact ⟨hB, (fun b hb => (f80 b (by simp at hb ⊢; try omega)).trans ((f60 b (by simp at hb ⊢; try omega)).trans ((f40 b (by simp at hb ⊢; try omega)).trans ((f18 b (by simp at hb ⊢; try omega)).trans ((f2 b (by simp at hb ⊢; try omega)).trans (rfl))))))⟩
        · skip
          refine pe_sipush d_K_beginCharacter_71 ?_
          refine pe_goto (t := 80) d_K_beginCharacter_74 ?_
          refine pe_any (fun v80 hv80 => ?_)
          refine pe_putiT f_K_49 g_1_5 d_K_beginCharacter_80 rfl rfl 5 rfl hB (by first | exact hB _ _ | exact hB0 _ _ | exact hBt _ _ | exact ⟨by omega, by omega⟩) (fun σ80 hB e80 o80 f80 => ?_)
          refine pe_rv d_K_beginCharacter_83 ?_
          exact ⟨hB, (fun b hb => (f80 b (by simp at hb ⊢; try omega)).trans ((f60 b (by simp at hb ⊢; try omega)).trans ((f40 b (by simp at hb ⊢; try omega)).trans ((f18 b (by simp at hb ⊢; try omega)).trans ((f2 b (by simp at hb ⊢; try omega)).trans (rfl))))))⟩
theorem t_K_takePlain {σ : pe_H} {t : Int} (hB : pe_B σ) (ht : pe_R t) : pe_M m_K_takePlain [pe_r 1, pe_i t] σ (pe_qi (fun z σ' => pe_B σ' ∧ (∀ b, b ∉ [1] → σ' b = σ b) ∧ pe_R z)) := by
  refine pe_in0 (lv := [some (pe_r 1), some (pe_i t)]) ?_
  have hB0 := hB
  refine pe_iload_n d_K_takePlain_0 rfl ?_
  refine pe_bipush d_K_takePlain_1 ?_
  refine pe_icmp_ne (t := 13) d_K_takePlain_3 (by first | exact hB _ _ | exact hB0 _ _ | exact hBt _ _ | exact ⟨by omega, by omega⟩) (by first | exact hB _ _ | exact hB0 _ _ | exact hBt _ _ | exact ⟨by omega, by omega⟩) (fun h3 => ?_) (fun h3 => ?_)
  · skip
    refine pe_iload_n d_K_takePlain_13 rfl ?_
    refine pe_sipush d_K_takePlain_14 ?_
    refine pe_icmp_lt (t := 34) d_K_takePlain_17 (by first | exact hB _ _ | exact hB0 _ _ | exact hBt _ _ | exact ⟨by omega, by omega⟩) (by first | exact hB _ _ | exact hB0 _ _ | exact hBt _ _ | exact ⟨by omega, by omega⟩) (fun h17 => ?_) (fun h17 => ?_)
    · skip
      refine pe_iload_n d_K_takePlain_34 rfl ?_
      refine pe_sipush d_K_takePlain_35 ?_
      refine pe_icmp_lt (t := 44) d_K_takePlain_38 (by first | exact hB _ _ | exact hB0 _ _ | exact hBt _ _ | exact ⟨by omega, by omega⟩) (by first | exact hB _ _ | exact hB0 _ _ | exact hBt _ _ | exact ⟨by omega, by omega⟩) (fun h38 => ?_) (fun h38 => ?_)
      · skip
        refine pe_iload_n d_K_takePlain_44 rfl ?_
        refine pe_bipush d_K_takePlain_45 ?_
        refine pe_icmp_ne (t := 63) d_K_takePlain_47 (by first | exact hB _ _ | exact hB0 _ _ | exact hBt _ _ | exact ⟨by omega, by omega⟩) (by first | exact hB _ _ | exact hB0 _ _ | exact hBt _ _ | exact ⟨by omega, by omega⟩) (fun h47 => ?_) (fun h47 => ?_)
        · skip
          refine pe_iload_n d_K_takePlain_63 rfl ?_
          refine pe_ri d_K_takePlain_64 ?_
          exact ⟨hB, (fun b hb => rfl), by first | assumption | exact hB _ _ | exact ⟨by omega, by omega⟩⟩
        · skip
          refine pe_aload_n d_K_takePlain_50 rfl ?_
          refine pe_geti f_K_15 d_K_takePlain_51 rfl rfl 6 rfl ?_
          refine pe_bipush d_K_takePlain_54 ?_
          refine pe_icmp_ne (t := 63) d_K_takePlain_56 (by first | exact hB _ _ | exact hB0 _ _ | exact hBt _ _ | exact ⟨by omega, by omega⟩) (by first | exact hB _ _ | exact hB0 _ _ | exact hBt _ _ | exact ⟨by omega, by omega⟩) (fun h56 => ?_) (fun h56 => ?_)
          · skip
            refine pe_iload_n d_K_takePlain_63 rfl ?_
            refine pe_ri d_K_takePlain_64 ?_
            exact ⟨hB, (fun b hb => rfl), by first | assumption | exact hB _ _ | exact ⟨by omega, by omega⟩⟩
          · skip
            refine pe_iconst d_K_takePlain_59 ?_
            refine pe_goto (t := 64) d_K_takePlain_60 ?_
            refine pe_ri d_K_takePlain_64 ?_
            exact ⟨hB, (fun b hb => rfl), by first | assumption | exact hB _ _ | exact ⟨by omega, by omega⟩⟩
      · skip
        refine pe_ldc q_K_26 d_K_takePlain_41 (z := 65533) rfl ?_
        refine pe_ri d_K_takePlain_43 ?_
        exact ⟨hB, (fun b hb => rfl), by first | assumption | exact hB _ _ | exact ⟨by omega, by omega⟩⟩
    · skip
      refine pe_iload_n d_K_takePlain_20 rfl ?_
      refine pe_sipush d_K_takePlain_21 ?_
      refine pe_icmp_gt (t := 34) d_K_takePlain_24 (by first | exact hB _ _ | exact hB0 _ _ | exact hBt _ _ | exact ⟨by omega, by omega⟩) (by first | exact hB _ _ | exact hB0 _ _ | exact hBt _ _ | exact ⟨by omega, by omega⟩) (fun h24 => ?_) (fun h24 => ?_)
      · skip
        refine pe_iload_n d_K_takePlain_34 rfl ?_
        refine pe_sipush d_K_takePlain_35 ?_
        refine pe_icmp_lt (t := 44) d_K_takePlain_38 (by first | exact hB _ _ | exact hB0 _ _ | exact hBt _ _ | exact ⟨by omega, by omega⟩) (by first | exact hB _ _ | exact hB0 _ _ | exact hBt _ _ | exact ⟨by omega, by omega⟩) (fun h38 => ?_) (fun h38 => ?_)
        · skip
          refine pe_iload_n d_K_takePlain_44 rfl ?_
          refine pe_bipush d_K_takePlain_45 ?_
          refine pe_icmp_ne (t := 63) d_K_takePlain_47 (by first | exact hB _ _ | exact hB0 _ _ | exact hBt _ _ | exact ⟨by omega, by omega⟩) (by first | exact hB _ _ | exact hB0 _ _ | exact hBt _ _ | exact ⟨by omega, by omega⟩) (fun h47 => ?_) (fun h47 => ?_)
          · skip
            refine pe_iload_n d_K_takePlain_63 rfl ?_
            refine pe_ri d_K_takePlain_64 ?_
            exact ⟨hB, (fun b hb => rfl), by first | assumption | exact hB _ _ | exact ⟨by omega, by omega⟩⟩
          · skip
            refine pe_aload_n d_K_takePlain_50 rfl ?_
            refine pe_geti f_K_15 d_K_takePlain_51 rfl rfl 6 rfl ?_
            refine pe_bipush d_K_takePlain_54 ?_
            refine pe_icmp_ne (t := 63) d_K_takePlain_56 (by first | exact hB _ _ | exact hB0 _ _ | exact hBt _ _ | exact ⟨by omega, by omega⟩) (by first | exact hB _ _ | exact hB0 _ _ | exact hBt _ _ | exact ⟨by omega, by omega⟩) (fun h56 => ?_) (fun h56 => ?_)
            · skip
              refine pe_iload_n d_K_takePlain_63 rfl ?_
              refine pe_ri d_K_takePlain_64 ?_
              exact ⟨hB, (fun b hb => rfl), by first | assumption | exact hB _ _ | exact ⟨by omega, by omega⟩⟩
            · skip
              refine pe_iconst d_K_takePlain_59 ?_
              refine pe_goto (t := 64) d_K_takePlain_60 ?_
              refine pe_ri d_K_takePlain_64 ?_
              exact ⟨hB, (fun b hb => rfl), by first | assumption | exact hB _ _ | exact ⟨by omega, by omega⟩⟩
        · skip
          refine pe_ldc q_K_26 d_K_takePlain_41 (z := 65533) rfl ?_
          refine pe_ri d_K_takePlain_43 ?_
          exact ⟨hB, (fun b hb => rfl), by first | assumption | exact hB _ _ | exact ⟨by omega, by omega⟩⟩
      · skip
        refine pe_aload_n d_K_takePlain_27 rfl ?_
        refine pe_iload_n d_K_takePlain_28 rfl ?_
        refine pe_v1v d_K_takePlain_29 c_K_52 i_K_beginCharacter s_K_beginCharacter rfl rfl (t_K_beginCharacter hB (by first | exact hB _ _ | exact hB0 _ _ | exact hBt _ _ | exact ⟨by omega, by omega⟩)) (fun σ29 hz29 => ?_)
        obtain ⟨hB, f29⟩ := hz29
        refine pe_iconst d_K_takePlain_32 ?_
        refine pe_ri d_K_takePlain_33 ?_
        exact ⟨hB, (fun b hb => (f29 b (by simp at hb ⊢; try omega)).trans (rfl)), by first | assumption | exact hB _ _ | exact ⟨by omega, by omega⟩⟩
  · skip
    refine pe_aload_n d_K_takePlain_6 rfl ?_
    refine pe_iconst d_K_takePlain_7 ?_
    refine pe_any (fun v8 hv8 => ?_)
    refine pe_putiT f_K_11 g_1_0 d_K_takePlain_8 rfl rfl 0 rfl hB (by first | exact hB _ _ | exact hB0 _ _ | exact hBt _ _ | exact ⟨by omega, by omega⟩) (fun σ8 hB e8 o8 f8 => ?_)
    refine pe_iconst d_K_takePlain_11 ?_
    refine pe_ri d_K_takePlain_12 ?_
    exact ⟨hB, (fun b hb => (f8 b (by simp at hb ⊢; try omega)).trans (rfl)), by first | assumption | exact hB _ _ | exact ⟨by omega, by omega⟩⟩
theorem t_K_takeWithin {σ : pe_H} {t : Int} (hB : pe_B σ) (ht : pe_R t) : pe_M m_K_takeWithin [pe_r 1, pe_i t] σ (pe_qi (fun z σ' => pe_B σ' ∧ (∀ b, b ∉ [1] → σ' b = σ b) ∧ pe_R z)) := by
  refine pe_in0 (lv := [some (pe_r 1), some (pe_i t)]) ?_
  have hB0 := hB
  refine pe_aload_n d_K_takeWithin_0 rfl ?_
  refine pe_aload_n d_K_takeWithin_1 rfl ?_
  refine pe_geti f_K_59 d_K_takeWithin_2 rfl rfl 2 rfl ?_
  refine pe_bipush d_K_takeWithin_5 ?_
  refine pe_imul d_K_takeWithin_7 ?_
  refine pe_iload_n d_K_takeWithin_8 rfl ?_
  refine pe_bipush d_K_takeWithin_9 ?_
  refine pe_iand d_K_takeWithin_11 (Int32.ofInt_toInt _).symm ?_
  refine pe_any (fun y11 hy11 => ?_)
  refine pe_iadd d_K_takeWithin_12 ?_
  refine pe_any (fun v13 hv13 => ?_)
  refine pe_putiT f_K_59 g_1_2 d_K_takeWithin_13 rfl rfl 2 rfl hB (by first | exact hB _ _ | exact hB0 _ _ | exact hBt _ _ | exact ⟨by omega, by omega⟩) (fun σ13 hB e13 o13 f13 => ?_)
  refine pe_aload_n d_K_takeWithin_16 rfl ?_
  refine pe_sipush d_K_takeWithin_17 ?_
  refine pe_any (fun v20 hv20 => ?_)
  refine pe_putiT f_K_46 g_1_4 d_K_takeWithin_20 rfl rfl 4 rfl hB (by first | exact hB _ _ | exact hB0 _ _ | exact hBt _ _ | exact ⟨by omega, by omega⟩) (fun σ20 hB e20 o20 f20 => ?_)
  refine pe_aload_n d_K_takeWithin_23 rfl ?_
  refine pe_sipush d_K_takeWithin_24 ?_
  refine pe_any (fun v27 hv27 => ?_)
  refine pe_putiT f_K_49 g_1_5 d_K_takeWithin_27 rfl rfl 5 rfl hB (by first | exact hB _ _ | exact hB0 _ _ | exact hBt _ _ | exact ⟨by omega, by omega⟩) (fun σ27 hB e27 o27 f27 => ?_)
  refine pe_aload_n d_K_takeWithin_30 rfl ?_
  refine pe_dup d_K_takeWithin_31 ?_
  refine pe_geti f_K_56 d_K_takeWithin_32 rfl rfl 3 rfl ?_
  refine pe_iconst d_K_takeWithin_35 ?_
  refine pe_isub d_K_takeWithin_36 ?_
  refine pe_any (fun v37 hv37 => ?_)
  refine pe_putiT f_K_56 g_1_3 d_K_takeWithin_37 rfl rfl 3 rfl hB (by first | exact hB _ _ | exact hB0 _ _ | exact hBt _ _ | exact ⟨by omega, by omega⟩) (fun σ37 hB e37 o37 f37 => ?_)
  refine pe_aload_n d_K_takeWithin_40 rfl ?_
  refine pe_geti f_K_56 d_K_takeWithin_41 rfl rfl 3 rfl ?_
  refine pe_if_le (t := 49) d_K_takeWithin_44 (by first | exact hB _ _ | exact hB0 _ _ | exact hBt _ _ | exact ⟨by omega, by omega⟩) (fun h44 => ?_) (fun h44 => ?_)
  · skip
    refine pe_aload_n d_K_takeWithin_49 rfl ?_
    refine pe_iconst d_K_takeWithin_50 ?_
    refine pe_any (fun v51 hv51 => ?_)
    refine pe_putiT f_K_11 g_1_0 d_K_takeWithin_51 rfl rfl 0 rfl hB (by first | exact hB _ _ | exact hB0 _ _ | exact hBt _ _ | exact ⟨by omega, by omega⟩) (fun σ51 hB e51 o51 f51 => ?_)
    refine pe_aload_n d_K_takeWithin_54 rfl ?_
    refine pe_geti f_K_59 d_K_takeWithin_55 rfl rfl 2 rfl ?_
    refine pe_sipush d_K_takeWithin_58 ?_
    refine pe_icmp_ge (t := 68) d_K_takeWithin_61 (by first | exact hB _ _ | exact hB0 _ _ | exact hBt _ _ | exact ⟨by omega, by omega⟩) (by first | exact hB _ _ | exact hB0 _ _ | exact hBt _ _ | exact ⟨by omega, by omega⟩) (fun h61 => ?_) (fun h61 => ?_)
    · skip
      refine pe_aload_n d_K_takeWithin_68 rfl ?_
      refine pe_geti f_K_59 d_K_takeWithin_69 rfl rfl 2 rfl ?_
      refine pe_ri d_K_takeWithin_72 ?_
      exact ⟨hB, (fun b hb => (f51 b (by simp at hb ⊢; try omega)).trans ((f37 b (by simp at hb ⊢; try omega)).trans ((f27 b (by simp at hb ⊢; try omega)).trans ((f20 b (by simp at hb ⊢; try omega)).trans ((f13 b (by simp at hb ⊢; try omega)).trans (rfl)))))), by first | assumption | exact hB _ _ | exact ⟨by omega, by omega⟩⟩
    · skip
      refine pe_iconst d_K_takeWithin_64 ?_
      refine pe_goto (t := 72) d_K_takeWithin_65 ?_
      refine pe_ri d_K_takeWithin_72 ?_
      exact ⟨hB, (fun b hb => (f51 b (by simp at hb ⊢; try omega)).trans ((f37 b (by simp at hb ⊢; try omega)).trans ((f27 b (by simp at hb ⊢; try omega)).trans ((f20 b (by simp at hb ⊢; try omega)).trans ((f13 b (by simp at hb ⊢; try omega)).trans (rfl)))))), by first | assumption | exact hB _ _ | exact ⟨by omega, by omega⟩⟩
  · skip
    refine pe_iconst d_K_takeWithin_47 ?_
    refine pe_ri d_K_takeWithin_48 ?_
    exact ⟨hB, (fun b hb => (f37 b (by simp at hb ⊢; try omega)).trans ((f27 b (by simp at hb ⊢; try omega)).trans ((f20 b (by simp at hb ⊢; try omega)).trans ((f13 b (by simp at hb ⊢; try omega)).trans (rfl))))), by first | assumption | exact hB _ _ | exact ⟨by omega, by omega⟩⟩
theorem t_K_numberedKey {σ : pe_H} (hB : pe_B σ) : pe_M m_K_numberedKey [pe_r 1] σ (pe_qi (fun z σ' => pe_B σ' ∧ (∀ b, b ∉ [1] → σ' b = σ b) ∧ pe_R z)) := by
  refine pe_in0 (lv := [some (pe_r 1)]) ?_
  have hB0 := hB
  refine pe_aload_n d_K_numberedKey_0 rfl ?_
  refine pe_geti f_K_27 d_K_numberedKey_1 rfl rfl 1 rfl ?_
  refine pe_lsw [(3, 40), (200, 43), (201, 46)] (dt := 49) d_K_numberedKey_4 (by first | exact hB _ _ | exact hB0 _ _ | exact hBt _ _ | exact ⟨by omega, by omega⟩) ?_
  refine ⟨fun h4 => ?_, fun h4_0 => ?_⟩
  · show pe_G _ _ _ _ _ _
    refine pe_ldc q_K_77 d_K_numberedKey_40 (z := 65542) rfl ?_
    refine pe_ri d_K_numberedKey_42 ?_
    exact ⟨hB, (fun b hb => rfl), by first | assumption | exact hB _ _ | exact ⟨by omega, by omega⟩⟩
  refine ⟨fun h4 => ?_, fun h4_1 => ?_⟩
  · show pe_G _ _ _ _ _ _
    refine pe_ldc q_K_78 d_K_numberedKey_43 (z := 65543) rfl ?_
    refine pe_ri d_K_numberedKey_45 ?_
    exact ⟨hB, (fun b hb => rfl), by first | assumption | exact hB _ _ | exact ⟨by omega, by omega⟩⟩
  refine ⟨fun h4 => ?_, fun h4_2 => ?_⟩
  · show pe_G _ _ _ _ _ _
    refine pe_ldc q_K_79 d_K_numberedKey_46 (z := 65544) rfl ?_
    refine pe_ri d_K_numberedKey_48 ?_
    exact ⟨hB, (fun b hb => rfl), by first | assumption | exact hB _ _ | exact ⟨by omega, by omega⟩⟩
  show pe_G _ _ _ _ _ _
  refine pe_iconst d_K_numberedKey_49 ?_
  refine pe_ri d_K_numberedKey_50 ?_
  exact ⟨hB, (fun b hb => rfl), by first | assumption | exact hB _ _ | exact ⟨by omega, by omega⟩⟩
theorem t_K_takeInSequence {σ : pe_H} {t : Int} (hB : pe_B σ) (ht : pe_R t) : pe_M m_K_takeInSequence [pe_r 1, pe_i t] σ (pe_qi (fun z σ' => pe_B σ' ∧ (∀ b, b ∉ [1] → σ' b = σ b) ∧ pe_R z)) := by
  refine pe_in0 (lv := [some (pe_r 1), some (pe_i t)]) ?_
  have hB0 := hB
  refine pe_iload_n d_K_takeInSequence_0 rfl ?_
  refine pe_s1p d_K_takeInSequence_1 c_K_40 z_K_isDigit (t_K_isDigit (by first | exact hB _ _ | exact hB0 _ _ | exact hBt _ _ | exact ⟨by omega, by omega⟩)) (fun z1 hz1 => ?_)
  refine pe_if_eq (t := 31) d_K_takeInSequence_4 (by first | exact hB _ _ | exact hB0 _ _ | exact hBt _ _ | exact ⟨by omega, by omega⟩) (fun h4 => ?_) (fun h4 => ?_)
  · skip
    refine pe_aload_n d_K_takeInSequence_31 rfl ?_
    refine pe_iconst d_K_takeInSequence_32 ?_
    refine pe_any (fun v33 hv33 => ?_)
    refine pe_putiT f_K_11 g_1_0 d_K_takeInSequence_33 rfl rfl 0 rfl hB (by first | exact hB _ _ | exact hB0 _ _ | exact hBt _ _ | exact ⟨by omega, by omega⟩) (fun σ33 hB e33 o33 f33 => ?_)
    refine pe_iload_n d_K_takeInSequence_36 rfl ?_
    refine pe_lsw [(65, 104), (66, 107), (67, 110), (68, 113), (70, 119), (72, 116), (126, 122)] (dt := 127) d_K_takeInSequence_37 (by first | exact hB _ _ | exact hB0 _ _ | exact hBt _ _ | exact ⟨by omega, by omega⟩) ?_
    refine ⟨fun h37 => ?_, fun h37_0 => ?_⟩
    · show pe_G _ _ _ _ _ _
      refine pe_ldc q_K_68 d_K_takeInSequence_104 (z := 65536) rfl ?_
      refine pe_ri d_K_takeInSequence_106 ?_
      exact ⟨hB, (fun b hb => (f33 b (by simp at hb ⊢; try omega)).trans (rfl)), by first | assumption | exact hB _ _ | exact ⟨by omega, by omega⟩⟩
    refine ⟨fun h37 => ?_, fun h37_1 => ?_⟩
    · show pe_G _ _ _ _ _ _
      refine pe_ldc q_K_69 d_K_takeInSequence_107 (z := 65537) rfl ?_
      refine pe_ri d_K_takeInSequence_109 ?_
      exact ⟨hB, (fun b hb => (f33 b (by simp at hb ⊢; try omega)).trans (rfl)), by first | assumption | exact hB _ _ | exact ⟨by omega, by omega⟩⟩
    refine ⟨fun h37 => ?_, fun h37_2 => ?_⟩
    · show pe_G _ _ _ _ _ _
      refine pe_ldc q_K_70 d_K_takeInSequence_110 (z := 65538) rfl ?_
      refine pe_ri d_K_takeInSequence_112 ?_
      exact ⟨hB, (fun b hb => (f33 b (by simp at hb ⊢; try omega)).trans (rfl)), by first | assumption | exact hB _ _ | exact ⟨by omega, by omega⟩⟩
    refine ⟨fun h37 => ?_, fun h37_3 => ?_⟩
    · show pe_G _ _ _ _ _ _
      refine pe_ldc q_K_71 d_K_takeInSequence_113 (z := 65539) rfl ?_
      refine pe_ri d_K_takeInSequence_115 ?_
      exact ⟨hB, (fun b hb => (f33 b (by simp at hb ⊢; try omega)).trans (rfl)), by first | assumption | exact hB _ _ | exact ⟨by omega, by omega⟩⟩
    refine ⟨fun h37 => ?_, fun h37_4 => ?_⟩
    · show pe_G _ _ _ _ _ _
      refine pe_ldc q_K_73 d_K_takeInSequence_119 (z := 65541) rfl ?_
      refine pe_ri d_K_takeInSequence_121 ?_
      exact ⟨hB, (fun b hb => (f33 b (by simp at hb ⊢; try omega)).trans (rfl)), by first | assumption | exact hB _ _ | exact ⟨by omega, by omega⟩⟩
    refine ⟨fun h37 => ?_, fun h37_5 => ?_⟩
    · show pe_G _ _ _ _ _ _
      refine pe_ldc q_K_72 d_K_takeInSequence_116 (z := 65540) rfl ?_
      refine pe_ri d_K_takeInSequence_118 ?_
      exact ⟨hB, (fun b hb => (f33 b (by simp at hb ⊢; try omega)).trans (rfl)), by first | assumption | exact hB _ _ | exact ⟨by omega, by omega⟩⟩
    refine ⟨fun h37 => ?_, fun h37_6 => ?_⟩
    · show pe_G _ _ _ _ _ _
      refine pe_aload_n d_K_takeInSequence_122 rfl ?_
      refine pe_v0i d_K_takeInSequence_123 c_K_74 i_K_numberedKey s_K_numberedKey rfl rfl (t_K_numberedKey hB) (fun z123 σ123 hz123 => ?_)
      obtain ⟨hB, f123, x123⟩ := hz123
      have hR123 : pe_R z123 := x123
      refine pe_ri d_K_takeInSequence_126 ?_
      exact ⟨hB, (fun b hb => (f123 b (by simp at hb ⊢; try omega)).trans ((f33 b (by simp at hb ⊢; try omega)).trans (rfl))), by first | assumption | exact hB _ _ | exact ⟨by omega, by omega⟩⟩
    show pe_G _ _ _ _ _ _
    refine pe_iconst d_K_takeInSequence_127 ?_
    refine pe_ri d_K_takeInSequence_128 ?_
    exact ⟨hB, (fun b hb => (f33 b (by simp at hb ⊢; try omega)).trans (rfl)), by first | assumption | exact hB _ _ | exact ⟨by omega, by omega⟩⟩
  · skip
    refine pe_aload_n d_K_takeInSequence_7 rfl ?_
    refine pe_sipush d_K_takeInSequence_8 ?_
    refine pe_bipush d_K_takeInSequence_11 ?_
    refine pe_aload_n d_K_takeInSequence_13 rfl ?_
    refine pe_geti f_K_27 d_K_takeInSequence_14 rfl rfl 1 rfl ?_
    refine pe_imul d_K_takeInSequence_17 ?_
    refine pe_iload_n d_K_takeInSequence_18 rfl ?_
    refine pe_iadd d_K_takeInSequence_19 ?_
    refine pe_bipush d_K_takeInSequence_20 ?_
    refine pe_isub d_K_takeInSequence_22 ?_
    refine pe_any (fun v23 hv23 => ?_)
    refine pe_minT c_K_62 d_K_takeInSequence_23 (by first | exact hB _ _ | exact hB0 _ _ | exact hBt _ _ | exact ⟨by omega, by omega⟩) (by first | exact hB _ _ | exact hB0 _ _ | exact hBt _ _ | exact ⟨by omega, by omega⟩) (fun z23 hz23 => ?_)
    refine pe_any (fun v26 hv26 => ?_)
    refine pe_putiT f_K_27 g_1_1 d_K_takeInSequence_26 rfl rfl 1 rfl hB (by first | exact hB _ _ | exact hB0 _ _ | exact hBt _ _ | exact ⟨by omega, by omega⟩) (fun σ26 hB e26 o26 f26 => ?_)
    refine pe_iconst d_K_takeInSequence_29 ?_
    refine pe_ri d_K_takeInSequence_30 ?_
    exact ⟨hB, (fun b hb => (f26 b (by simp at hb ⊢; try omega)).trans (rfl)), by first | assumption | exact hB _ _ | exact ⟨by omega, by omega⟩⟩
theorem t_K_take {σ : pe_H} {t : Int} (hB : pe_B σ) (ht : pe_R t) : pe_M m_K_take [pe_r 1, pe_i t] σ (pe_qi (fun z σ' => pe_B σ' ∧ (∀ b, b ∉ [1] → σ' b = σ b) ∧ pe_R z)) := by
  refine pe_in0 (lv := [some (pe_r 1), some (pe_i t), none]) ?_
  have hB0 := hB
  refine pe_iconst d_K_take_0 ?_
  refine pe_istore_n d_K_take_1 ?_
  refine pe_aload_n d_K_take_2 rfl ?_
  refine pe_geti f_K_11 d_K_take_3 rfl rfl 0 rfl ?_
  refine pe_tsw [(1, 32), (2, 45), (3, 54)] (dt := 63) d_K_take_6 (by first | exact hB _ _ | exact hB0 _ _ | exact hBt _ _ | exact ⟨by omega, by omega⟩) ?_
  refine ⟨fun h6 => ?_, fun h6_0 => ?_⟩
  · show pe_G _ _ _ _ _ _
    refine pe_aload_n d_K_take_32 rfl ?_
    refine pe_iconst d_K_take_33 ?_
    refine pe_any (fun v34 hv34 => ?_)
    refine pe_putiT f_K_11 g_1_0 d_K_take_34 rfl rfl 0 rfl hB (by first | exact hB _ _ | exact hB0 _ _ | exact hBt _ _ | exact ⟨by omega, by omega⟩) (fun σ34 hB e34 o34 f34 => ?_)
    refine pe_aload_n d_K_take_37 rfl ?_
    refine pe_iconst d_K_take_38 ?_
    refine pe_any (fun v39 hv39 => ?_)
    refine pe_putiT f_K_27 g_1_1 d_K_take_39 rfl rfl 1 rfl hB (by first | exact hB _ _ | exact hB0 _ _ | exact hBt _ _ | exact ⟨by omega, by omega⟩) (fun σ39 hB e39 o39 f39 => ?_)
    refine pe_goto (t := 69) d_K_take_42 ?_
    refine pe_aload_n d_K_take_69 rfl ?_
    refine pe_iload_n d_K_take_70 rfl ?_
    refine pe_any (fun v71 hv71 => ?_)
    refine pe_putiT f_K_15 g_1_6 d_K_take_71 rfl rfl 6 rfl hB (by first | exact hB _ _ | exact hB0 _ _ | exact hBt _ _ | exact ⟨by omega, by omega⟩) (fun σ71 hB e71 o71 f71 => ?_)
    refine pe_iload_n d_K_take_74 rfl ?_
    refine pe_ri d_K_take_75 ?_
    exact ⟨hB, (fun b hb => (f71 b (by simp at hb ⊢; try omega)).trans ((f39 b (by simp at hb ⊢; try omega)).trans ((f34 b (by simp at hb ⊢; try omega)).trans (rfl)))), by first | assumption | exact hB _ _ | exact ⟨by omega, by omega⟩⟩
  refine ⟨fun h6 => ?_, fun h6_1 => ?_⟩
  · show pe_G _ _ _ _ _ _
    refine pe_aload_n d_K_take_45 rfl ?_
    refine pe_iload_n d_K_take_46 rfl ?_
    refine pe_v1i d_K_take_47 c_K_30 i_K_takeInSequence s_K_takeInSequence rfl rfl (t_K_takeInSequence hB (by first | exact hB _ _ | exact hB0 _ _ | exact hBt _ _ | exact ⟨by omega, by omega⟩)) (fun z47 σ47 hz47 => ?_)
    obtain ⟨hB, f47, x47⟩ := hz47
    have hR47 : pe_R z47 := x47
    refine pe_istore_n d_K_take_50 ?_
    refine pe_goto (t := 69) d_K_take_51 ?_
    refine pe_aload_n d_K_take_69 rfl ?_
    refine pe_iload_n d_K_take_70 rfl ?_
    refine pe_any (fun v71 hv71 => ?_)
    refine pe_putiT f_K_15 g_1_6 d_K_take_71 rfl rfl 6 rfl hB (by first | exact hB _ _ | exact hB0 _ _ | exact hBt _ _ | exact ⟨by omega, by omega⟩) (fun σ71 hB e71 o71 f71 => ?_)
    refine pe_iload_n d_K_take_74 rfl ?_
    refine pe_ri d_K_take_75 ?_
    exact ⟨hB, (fun b hb => (f71 b (by simp at hb ⊢; try omega)).trans ((f47 b (by simp at hb ⊢; try omega)).trans (rfl))), by first | assumption | exact hB _ _ | exact ⟨by omega, by omega⟩⟩
  refine ⟨fun h6 => ?_, fun h6_2 => ?_⟩
  · show pe_G _ _ _ _ _ _
    refine pe_aload_n d_K_take_54 rfl ?_
    refine pe_iload_n d_K_take_55 rfl ?_
    refine pe_v1i d_K_take_56 c_K_34 i_K_takeWithin s_K_takeWithin rfl rfl (t_K_takeWithin hB (by first | exact hB _ _ | exact hB0 _ _ | exact hBt _ _ | exact ⟨by omega, by omega⟩)) (fun z56 σ56 hz56 => ?_)
    obtain ⟨hB, f56, x56⟩ := hz56
    have hR56 : pe_R z56 := x56
    refine pe_istore_n d_K_take_59 ?_
    refine pe_goto (t := 69) d_K_take_60 ?_
    refine pe_aload_n d_K_take_69 rfl ?_
    refine pe_iload_n d_K_take_70 rfl ?_
    refine pe_any (fun v71 hv71 => ?_)
    refine pe_putiT f_K_15 g_1_6 d_K_take_71 rfl rfl 6 rfl hB (by first | exact hB _ _ | exact hB0 _ _ | exact hBt _ _ | exact ⟨by omega, by omega⟩) (fun σ71 hB e71 o71 f71 => ?_)
    refine pe_iload_n d_K_take_74 rfl ?_
    refine pe_ri d_K_take_75 ?_
    exact ⟨hB, (fun b hb => (f71 b (by simp at hb ⊢; try omega)).trans ((f56 b (by simp at hb ⊢; try omega)).trans (rfl))), by first | assumption | exact hB _ _ | exact ⟨by omega, by omega⟩⟩
  show pe_G _ _ _ _ _ _
  refine pe_aload_n d_K_take_63 rfl ?_
  refine pe_iload_n d_K_take_64 rfl ?_
  refine pe_v1i d_K_take_65 c_K_37 i_K_takePlain s_K_takePlain rfl rfl (t_K_takePlain hB (by first | exact hB _ _ | exact hB0 _ _ | exact hBt _ _ | exact ⟨by omega, by omega⟩)) (fun z65 σ65 hz65 => ?_)
  obtain ⟨hB, f65, x65⟩ := hz65
  have hR65 : pe_R z65 := x65
  refine pe_istore_n d_K_take_68 ?_
  refine pe_aload_n d_K_take_69 rfl ?_
  refine pe_iload_n d_K_take_70 rfl ?_
  refine pe_any (fun v71 hv71 => ?_)
  refine pe_putiT f_K_15 g_1_6 d_K_take_71 rfl rfl 6 rfl hB (by first | exact hB _ _ | exact hB0 _ _ | exact hBt _ _ | exact ⟨by omega, by omega⟩) (fun σ71 hB e71 o71 f71 => ?_)
  refine pe_iload_n d_K_take_74 rfl ?_
  refine pe_ri d_K_take_75 ?_
  exact ⟨hB, (fun b hb => (f71 b (by simp at hb ⊢; try omega)).trans ((f65 b (by simp at hb ⊢; try omega)).trans (rfl))), by first | assumption | exact hB _ _ | exact ⟨by omega, by omega⟩⟩
