/-- the reference between two calls -/
def pe_MI (σ : pe_H) : Prop := pe_MEs σ ∧ pe_KI (σ 29) ∧ (1 ≤ σ 29 21 ∧ σ 29 21 ≤ 24 ∧ 1 ≤ σ 29 22 ∧ σ 29 22 ≤ 8) ∧ (0 ≤ σ 29 36 ∧ σ 29 36 < σ 29 22 ∧ 0 ≤ σ 29 37 ∧ σ 29 37 < σ 29 21 ∧ -1 ≤ σ 29 40 ∧ σ 29 40 < 192) ∧ pe_SW (σ 29) (σ 42) ∧ (∀ j, 0 ≤ σ 44 j) ∧ (0 ≤ σ 29 43 ∧ σ 29 43 ≤ 6000) ∧ (0 ≤ σ 29 27 ∧ σ 29 27 ≤ 600) ∧ (∀ j, 0 ≤ j → j < σ 29 1 → σ 30 j ≠ 0)
/-- what composing the screen wants, and leaves (proved apart) -/
def pe_CM : Prop := ∀ σ : pe_H, pe_B σ → pe_MEs σ → (1 ≤ σ 29 21 ∧ σ 29 21 ≤ 24 ∧ 1 ≤ σ 29 22 ∧ σ 29 22 ≤ 8) → (0 ≤ σ 29 27 ∧ σ 29 27 ≤ 600) → (∀ j, 0 ≤ j → j < σ 29 1 → σ 30 j ≠ 0) → pe_M m_M_compose [pe_r 29] σ (pe_qv (fun σ' => pe_B σ' ∧ (∀ b, b ∉ [29, 37, 38, 39, 40, 41] → σ' b = σ b) ∧ (∀ j, j ∉ ([26, 27, 30, 31] : List Int) → σ' 29 j = σ 29 j) ∧ pe_DW (σ' 29) (σ' 40) ∧ (0 ≤ σ' 29 30 ∧ σ' 29 30 < σ 29 22 ∧ 0 ≤ σ' 29 31 ∧ σ' 29 31 < σ 29 21) ∧ (0 ≤ σ' 29 27 ∧ σ' 29 27 ≤ 600)))
theorem t_M_text {σ : pe_H} {k : Int} (hB : pe_B σ) (hI0 : pe_MI σ) (hk : pe_R k) : pe_M m_M_text [pe_r 29, pe_i k] σ (pe_qp σ (fun _ => True)) := by
  refine pe_in0 (lv := [some (pe_r 29), some (pe_i k)]) ?_
  have hB0 := hB
  have hI1 := hI0
  obtain ⟨hM0, hK0, hW, hp, hS, A44, hs, htop, hN⟩ := hI0
  have hM9 := hM0
  obtain ⟨hl, A30, A31, A36, ⟨hcu, hbg⟩, hma, hcl, hcg, hch⟩ := hM9
  obtain ⟨k1, k2, k3, k4, k5⟩ := id hK0
  refine pe_iload_n d_M_text_0 rfl ?_
  refine pe_if_lt (t := 12) d_M_text_1 (by first | exact hB _ _ | exact hB0 _ _ | exact hBt _ _ | exact ⟨by omega, by omega⟩) (fun h1 => ?_) (fun h1 => ?_)
  · skip
    refine pe_iconst d_M_text_12 ?_
    refine pe_goto (t := 22) d_M_text_13 ?_
    refine pe_ri d_M_text_22 ?_
    exact ⟨rfl, trivial⟩
  · skip
    refine pe_iload_n d_M_text_4 rfl ?_
    refine pe_aload_n d_M_text_5 rfl ?_
    refine pe_geti f_M_87 d_M_text_6 rfl rfl 1 rfl ?_
    refine pe_icmp_lt (t := 16) d_M_text_9 (by first | exact hB _ _ | exact hB0 _ _ | exact hBt _ _ | exact ⟨by omega, by omega⟩) (by first | exact hB _ _ | exact hB0 _ _ | exact hBt _ _ | exact ⟨by omega, by omega⟩) (fun h9 => ?_) (fun h9 => ?_)
    · skip
      refine pe_aload_n d_M_text_16 rfl ?_
      refine pe_getr f_M_7 d_M_text_17 rfl rfl ?_
      refine pe_iload_n d_M_text_20 rfl ?_
      refine pe_iald d_M_text_21 rfl (by omega) (by omega) ?_
      refine pe_ri d_M_text_22 ?_
      exact ⟨rfl, trivial⟩
    · skip
      refine pe_iconst d_M_text_12 ?_
      refine pe_goto (t := 22) d_M_text_13 ?_
      refine pe_ri d_M_text_22 ?_
      exact ⟨rfl, trivial⟩
theorem t_M_state {σ : pe_H} {k : Int} (hB : pe_B σ) (hI0 : pe_MI σ) (hk : pe_R k) : pe_M m_M_state [pe_r 29, pe_i k] σ (pe_qp σ (fun _ => True)) := by
  refine pe_in0 (lv := [some (pe_r 29), some (pe_i k)]) ?_
  have hB0 := hB
  have hI1 := hI0
  obtain ⟨hM0, hK0, hW, hp, hS, A44, hs, htop, hN⟩ := hI0
  have hM9 := hM0
  obtain ⟨hl, A30, A31, A36, ⟨hcu, hbg⟩, hma, hcl, hcg, hch⟩ := hM9
  obtain ⟨k1, k2, k3, k4, k5⟩ := id hK0
  refine pe_iload_n d_M_state_0 rfl ?_
  refine pe_tsw [(0, 48), (1, 53), (2, 60), (3, 65), (4, 70), (5, 77), (6, 82), (7, 98)] (dt := 111) d_M_state_1 (by first | exact hB _ _ | exact hB0 _ _ | exact hBt _ _ | exact ⟨by omega, by omega⟩) ?_
  refine ⟨fun h1 => ?_, fun h1_0 => ?_⟩
  · show pe_G _ _ _ _ _ _
    refine pe_aload_n d_M_state_48 rfl ?_
    refine pe_geti f_M_117 d_M_state_49 rfl rfl 2 rfl ?_
    refine pe_ri d_M_state_52 ?_
    exact ⟨rfl, trivial⟩
  refine ⟨fun h1 => ?_, fun h1_1 => ?_⟩
  · show pe_G _ _ _ _ _ _
    refine pe_aload_n d_M_state_53 rfl ?_
    refine pe_geti f_M_13 d_M_state_54 rfl rfl 3 rfl ?_
    refine pe_iconst d_M_state_57 ?_
    refine pe_iadd d_M_state_58 ?_
    refine pe_ri d_M_state_59 ?_
    exact ⟨rfl, trivial⟩
  refine ⟨fun h1 => ?_, fun h1_2 => ?_⟩
  · show pe_G _ _ _ _ _ _
    refine pe_aload_n d_M_state_60 rfl ?_
    refine pe_geti f_M_132 d_M_state_61 rfl rfl 5 rfl ?_
    refine pe_ri d_M_state_64 ?_
    exact ⟨rfl, trivial⟩
  refine ⟨fun h1 => ?_, fun h1_3 => ?_⟩
  · show pe_G _ _ _ _ _ _
    refine pe_aload_n d_M_state_65 rfl ?_
    refine pe_geti f_M_111 d_M_state_66 rfl rfl 7 rfl ?_
    refine pe_ri d_M_state_69 ?_
    exact ⟨rfl, trivial⟩
  refine ⟨fun h1 => ?_, fun h1_4 => ?_⟩
  · show pe_G _ _ _ _ _ _
    refine pe_aload_n d_M_state_70 rfl ?_
    refine pe_geti f_M_20 d_M_state_71 rfl rfl 6 rfl ?_
    refine pe_iconst d_M_state_74 ?_
    refine pe_iadd d_M_state_75 ?_
    refine pe_ri d_M_state_76 ?_
    exact ⟨rfl, trivial⟩
  refine ⟨fun h1 => ?_, fun h1_5 => ?_⟩
  · show pe_G _ _ _ _ _ _
    refine pe_aload_n d_M_state_77 rfl ?_
    refine pe_geti f_M_222 d_M_state_78 rfl rfl 27 rfl ?_
    refine pe_ri d_M_state_81 ?_
    exact ⟨rfl, trivial⟩
  refine ⟨fun h1 => ?_, fun h1_6 => ?_⟩
  · show pe_G _ _ _ _ _ _
    refine pe_aload_n d_M_state_82 rfl ?_
    refine pe_geti f_M_184 d_M_state_83 rfl rfl 15 rfl ?_
    refine pe_if_le (t := 93) d_M_state_86 (by first | exact hB _ _ | exact hB0 _ _ | exact hBt _ _ | exact ⟨by omega, by omega⟩) (fun h86 => ?_) (fun h86 => ?_)
    · skip
      refine pe_aload_n d_M_state_93 rfl ?_
      refine pe_geti f_M_181 d_M_state_94 rfl rfl 13 rfl ?_
      refine pe_ri d_M_state_97 ?_
      exact ⟨rfl, trivial⟩
    · skip
      refine pe_iconst d_M_state_89 ?_
      refine pe_goto (t := 97) d_M_state_90 ?_
      refine pe_ri d_M_state_97 ?_
      exact ⟨rfl, trivial⟩
  refine ⟨fun h1 => ?_, fun h1_7 => ?_⟩
  · show pe_G _ _ _ _ _ _
    refine pe_aload_n d_M_state_98 rfl ?_
    refine pe_geti f_M_147 d_M_state_99 rfl rfl 19 rfl ?_
    refine pe_if_eq (t := 109) d_M_state_102 (by first | exact hB _ _ | exact hB0 _ _ | exact hBt _ _ | exact ⟨by omega, by omega⟩) (fun h102 => ?_) (fun h102 => ?_)
    · skip
      refine pe_iconst d_M_state_109 ?_
      refine pe_ri d_M_state_110 ?_
      exact ⟨rfl, trivial⟩
    · skip
      refine pe_iconst d_M_state_105 ?_
      refine pe_goto (t := 110) d_M_state_106 ?_
      refine pe_ri d_M_state_110 ?_
      exact ⟨rfl, trivial⟩
  show pe_G _ _ _ _ _ _
  refine pe_iconst d_M_state_111 ?_
  refine pe_ri d_M_state_112 ?_
  exact ⟨rfl, trivial⟩
theorem t_M_terminal {σ : pe_H} {k : Int} (hB : pe_B σ) (hI0 : pe_MI σ) (hk : pe_R k) : pe_M m_M_terminal [pe_r 29, pe_i k] σ (pe_qp σ (fun _ => True)) := by
  refine pe_in0 (lv := [some (pe_r 29), some (pe_i k)]) ?_
  have hB0 := hB
  have hI1 := hI0
  obtain ⟨hM0, hK0, hW, hp, hS, A44, hs, htop, hN⟩ := hI0
  have hM9 := hM0
  obtain ⟨hl, A30, A31, A36, ⟨hcu, hbg⟩, hma, hcl, hcg, hch⟩ := hM9
  obtain ⟨k1, k2, k3, k4, k5⟩ := id hK0
  refine pe_iload_n d_M_terminal_0 rfl ?_
  refine pe_tsw [(0, 32), (1, 37), (2, 42), (3, 55)] (dt := 60) d_M_terminal_1 (by first | exact hB _ _ | exact hB0 _ _ | exact hBt _ _ | exact ⟨by omega, by omega⟩) ?_
  refine ⟨fun h1 => ?_, fun h1_0 => ?_⟩
  · show pe_G _ _ _ _ _ _
    refine pe_aload_n d_M_terminal_32 rfl ?_
    refine pe_geti f_M_263 d_M_terminal_33 rfl rfl 36 rfl ?_
    refine pe_ri d_M_terminal_36 ?_
    exact ⟨rfl, trivial⟩
  refine ⟨fun h1 => ?_, fun h1_1 => ?_⟩
  · show pe_G _ _ _ _ _ _
    refine pe_aload_n d_M_terminal_37 rfl ?_
    refine pe_geti f_M_266 d_M_terminal_38 rfl rfl 37 rfl ?_
    refine pe_ri d_M_terminal_41 ?_
    exact ⟨rfl, trivial⟩
  refine ⟨fun h1 => ?_, fun h1_2 => ?_⟩
  · show pe_G _ _ _ _ _ _
    refine pe_aload_n d_M_terminal_42 rfl ?_
    refine pe_geti f_M_260 d_M_terminal_43 rfl rfl 38 rfl ?_
    refine pe_if_eq (t := 53) d_M_terminal_46 (by first | exact hB _ _ | exact hB0 _ _ | exact hBt _ _ | exact ⟨by omega, by omega⟩) (fun h46 => ?_) (fun h46 => ?_)
    · skip
      refine pe_iconst d_M_terminal_53 ?_
      refine pe_ri d_M_terminal_54 ?_
      exact ⟨rfl, trivial⟩
    · skip
      refine pe_iconst d_M_terminal_49 ?_
      refine pe_goto (t := 54) d_M_terminal_50 ?_
      refine pe_ri d_M_terminal_54 ?_
      exact ⟨rfl, trivial⟩
  refine ⟨fun h1 => ?_, fun h1_3 => ?_⟩
  · show pe_G _ _ _ _ _ _
    refine pe_aload_n d_M_terminal_55 rfl ?_
    refine pe_geti f_M_272 d_M_terminal_56 rfl rfl 39 rfl ?_
    refine pe_ri d_M_terminal_59 ?_
    exact ⟨rfl, trivial⟩
  show pe_G _ _ _ _ _ _
  refine pe_iconst d_M_terminal_60 ?_
  refine pe_ri d_M_terminal_61 ?_
  exact ⟨rfl, trivial⟩
theorem t_M_sent {σ : pe_H} {k : Int} (hB : pe_B σ) (hI0 : pe_MI σ) (hk : pe_R k) : pe_M m_M_sent [pe_r 29, pe_i k] σ (pe_qp σ (fun _ => True)) := by
  refine pe_in0 (lv := [some (pe_r 29), some (pe_i k)]) ?_
  have hB0 := hB
  have hI1 := hI0
  obtain ⟨hM0, hK0, hW, hp, hS, A44, hs, htop, hN⟩ := hI0
  have hM9 := hM0
  obtain ⟨hl, A30, A31, A36, ⟨hcu, hbg⟩, hma, hcl, hcg, hch⟩ := hM9
  obtain ⟨k1, k2, k3, k4, k5⟩ := id hK0
  refine pe_iload_n d_M_sent_0 rfl ?_
  refine pe_if_lt (t := 12) d_M_sent_1 (by first | exact hB _ _ | exact hB0 _ _ | exact hBt _ _ | exact ⟨by omega, by omega⟩) (fun h1 => ?_) (fun h1 => ?_)
  · skip
    refine pe_iconst d_M_sent_12 ?_
    refine pe_goto (t := 22) d_M_sent_13 ?_
    refine pe_ri d_M_sent_22 ?_
    exact ⟨rfl, trivial⟩
  · skip
    refine pe_iload_n d_M_sent_4 rfl ?_
    refine pe_aload_n d_M_sent_5 rfl ?_
    refine pe_geti f_M_250 d_M_sent_6 rfl rfl 43 rfl ?_
    refine pe_icmp_lt (t := 16) d_M_sent_9 (by first | exact hB _ _ | exact hB0 _ _ | exact hBt _ _ | exact ⟨by omega, by omega⟩) (by first | exact hB _ _ | exact hB0 _ _ | exact hBt _ _ | exact ⟨by omega, by omega⟩) (fun h9 => ?_) (fun h9 => ?_)
    · skip
      refine pe_aload_n d_M_sent_16 rfl ?_
      refine pe_getr f_M_75 d_M_sent_17 rfl rfl ?_
      refine pe_iload_n d_M_sent_20 rfl ?_
      refine pe_iald d_M_sent_21 rfl (by omega) (by omega) ?_
      refine pe_ri d_M_sent_22 ?_
      exact ⟨rfl, trivial⟩
    · skip
      refine pe_iconst d_M_sent_12 ?_
      refine pe_goto (t := 22) d_M_sent_13 ?_
      refine pe_ri d_M_sent_22 ?_
      exact ⟨rfl, trivial⟩
theorem t_M_isCell {σ : pe_H} {r c : Int} (hB : pe_B σ) (hr : pe_R r) (hc : pe_R c) : pe_M m_M_isCell [pe_r 29, pe_i r, pe_i c] σ (pe_qp σ (fun z => (z = 0 ∨ z = 1) ∧ (z = 1 ↔ 0 ≤ r ∧ r < σ 29 22 ∧ 0 ≤ c ∧ c < σ 29 21))) := by
  refine pe_in0 (lv := [some (pe_r 29), some (pe_i r), some (pe_i c)]) ?_
  have hB0 := hB
  refine pe_iload_n d_M_isCell_0 rfl ?_
  refine pe_if_lt (t := 28) d_M_isCell_1 (by first | exact hB _ _ | exact hB0 _ _ | exact hBt _ _ | exact ⟨by omega, by omega⟩) (fun h1 => ?_) (fun h1 => ?_)
  · skip
    refine pe_iconst d_M_isCell_28 ?_
    refine pe_rz d_M_isCell_29 (by first | exact Or.inl rfl | exact Or.inr rfl | omega) ?_
    exact ⟨rfl, by (try dsimp only); omega⟩
  · skip
    refine pe_iload_n d_M_isCell_4 rfl ?_
    refine pe_aload_n d_M_isCell_5 rfl ?_
    refine pe_geti f_M_81 d_M_isCell_6 rfl rfl 22 rfl ?_
    refine pe_icmp_ge (t := 28) d_M_isCell_9 (by first | exact hB _ _ | exact hB0 _ _ | exact hBt _ _ | exact ⟨by omega, by omega⟩) (by first | exact hB _ _ | exact hB0 _ _ | exact hBt _ _ | exact ⟨by omega, by omega⟩) (fun h9 => ?_) (fun h9 => ?_)
    · skip
      refine pe_iconst d_M_isCell_28 ?_
      refine pe_rz d_M_isCell_29 (by first | exact Or.inl rfl | exact Or.inr rfl | omega) ?_
      exact ⟨rfl, by (try dsimp only); omega⟩
    · skip
      refine pe_iload_n d_M_isCell_12 rfl ?_
      refine pe_if_lt (t := 28) d_M_isCell_13 (by first | exact hB _ _ | exact hB0 _ _ | exact hBt _ _ | exact ⟨by omega, by omega⟩) (fun h13 => ?_) (fun h13 => ?_)
      · skip
        refine pe_iconst d_M_isCell_28 ?_
        refine pe_rz d_M_isCell_29 (by first | exact Or.inl rfl | exact Or.inr rfl | omega) ?_
        exact ⟨rfl, by (try dsimp only); omega⟩
      · skip
        refine pe_iload_n d_M_isCell_16 rfl ?_
        refine pe_aload_n d_M_isCell_17 rfl ?_
        refine pe_geti f_M_78 d_M_isCell_18 rfl rfl 21 rfl ?_
        refine pe_icmp_ge (t := 28) d_M_isCell_21 (by first | exact hB _ _ | exact hB0 _ _ | exact hBt _ _ | exact ⟨by omega, by omega⟩) (by first | exact hB _ _ | exact hB0 _ _ | exact hBt _ _ | exact ⟨by omega, by omega⟩) (fun h21 => ?_) (fun h21 => ?_)
        · skip
          refine pe_iconst d_M_isCell_28 ?_
          refine pe_rz d_M_isCell_29 (by first | exact Or.inl rfl | exact Or.inr rfl | omega) ?_
          exact ⟨rfl, by (try dsimp only); omega⟩
        · skip
          refine pe_iconst d_M_isCell_24 ?_
          refine pe_goto (t := 29) d_M_isCell_25 ?_
          refine pe_rz d_M_isCell_29 (by first | exact Or.inl rfl | exact Or.inr rfl | omega) ?_
          exact ⟨rfl, by (try dsimp only); omega⟩
theorem t_M_cell {σ : pe_H} {r c : Int} (hB : pe_B σ) (hI0 : pe_MI σ) (hr : pe_R r) (hc : pe_R c) : pe_M m_M_cell [pe_r 29, pe_i r, pe_i c] σ (pe_qp σ (fun _ => True)) := by
  refine pe_in0 (lv := [some (pe_r 29), some (pe_i r), some (pe_i c)]) ?_
  have hB0 := hB
  have hI1 := hI0
  obtain ⟨hM0, hK0, hW, hp, hS, A44, hs, htop, hN⟩ := hI0
  have hM9 := hM0
  obtain ⟨hl, A30, A31, A36, ⟨hcu, hbg⟩, hma, hcl, hcg, hch⟩ := hM9
  obtain ⟨k1, k2, k3, k4, k5⟩ := id hK0
  refine pe_aload_n d_M_cell_0 rfl ?_
  refine pe_iload_n d_M_cell_1 rfl ?_
  refine pe_iload_n d_M_cell_2 rfl ?_
  refine pe_v2p d_M_cell_3 c_M_309 i_M_isCell s_M_isCell rfl rfl (t_M_isCell hB (by first | exact hB _ _ | exact hB0 _ _ | exact hBt _ _ | exact ⟨by omega, by omega⟩) (by first | exact hB _ _ | exact hB0 _ _ | exact hBt _ _ | exact ⟨by omega, by omega⟩)) (fun z3 hz3 => ?_)
  refine pe_if_eq (t := 25) d_M_cell_6 (by first | exact hB _ _ | exact hB0 _ _ | exact hBt _ _ | exact ⟨by omega, by omega⟩) (fun h6 => ?_) (fun h6 => ?_)
  · skip
    refine pe_iconst d_M_cell_25 ?_
    refine pe_ri d_M_cell_26 ?_
    exact ⟨rfl, trivial⟩
  · skip
    refine pe_aload_n d_M_cell_9 rfl ?_
    refine pe_getr f_M_56 d_M_cell_10 rfl rfl ?_
    refine pe_aload_n d_M_cell_13 rfl ?_
    refine pe_geti f_M_78 d_M_cell_14 rfl rfl 21 rfl ?_
    refine pe_iload_n d_M_cell_17 rfl ?_
    refine pe_imul d_M_cell_18 ?_
    refine pe_iload_n d_M_cell_19 rfl ?_
    refine pe_iadd d_M_cell_20 ?_
    have ix := pe_ix (W := σ 29 21) (H := σ 29 22) (r := r) (c := c) (by omega) (by omega) (by omega) (by omega)
    refine pe_iald d_M_cell_21 rfl (by omega) (by omega) ?_
    refine pe_goto (t := 26) d_M_cell_22 ?_
    refine pe_ri d_M_cell_26 ?_
    exact ⟨rfl, trivial⟩
theorem t_M_look {σ : pe_H} {r c : Int} (hB : pe_B σ) (hI0 : pe_MI σ) (hr : pe_R r) (hc : pe_R c) : pe_M m_M_look [pe_r 29, pe_i r, pe_i c] σ (pe_qp σ (fun _ => True)) := by
  refine pe_in0 (lv := [some (pe_r 29), some (pe_i r), some (pe_i c)]) ?_
  have hB0 := hB
  have hI1 := hI0
  obtain ⟨hM0, hK0, hW, hp, hS, A44, hs, htop, hN⟩ := hI0
  have hM9 := hM0
  obtain ⟨hl, A30, A31, A36, ⟨hcu, hbg⟩, hma, hcl, hcg, hch⟩ := hM9
  obtain ⟨k1, k2, k3, k4, k5⟩ := id hK0
  refine pe_aload_n d_M_look_0 rfl ?_
  refine pe_iload_n d_M_look_1 rfl ?_
  refine pe_iload_n d_M_look_2 rfl ?_
  refine pe_v2p d_M_look_3 c_M_309 i_M_isCell s_M_isCell rfl rfl (t_M_isCell hB (by first | exact hB _ _ | exact hB0 _ _ | exact hBt _ _ | exact ⟨by omega, by omega⟩) (by first | exact hB _ _ | exact hB0 _ _ | exact hBt _ _ | exact ⟨by omega, by omega⟩)) (fun z3 hz3 => ?_)
  refine pe_if_eq (t := 25) d_M_look_6 (by first | exact hB _ _ | exact hB0 _ _ | exact hBt _ _ | exact ⟨by omega, by omega⟩) (fun h6 => ?_) (fun h6 => ?_)
  · skip
    refine pe_iconst d_M_look_25 ?_
    refine pe_ri d_M_look_26 ?_
    exact ⟨rfl, trivial⟩
  · skip
    refine pe_aload_n d_M_look_9 rfl ?_
    refine pe_getr f_M_59 d_M_look_10 rfl rfl ?_
    refine pe_aload_n d_M_look_13 rfl ?_
    refine pe_geti f_M_78 d_M_look_14 rfl rfl 21 rfl ?_
    refine pe_iload_n d_M_look_17 rfl ?_
    refine pe_imul d_M_look_18 ?_
    refine pe_iload_n d_M_look_19 rfl ?_
    refine pe_iadd d_M_look_20 ?_
    have ix := pe_ix (W := σ 29 21) (H := σ 29 22) (r := r) (c := c) (by omega) (by omega) (by omega) (by omega)
    refine pe_iald d_M_look_21 rfl (by omega) (by omega) ?_
    refine pe_goto (t := 26) d_M_look_22 ?_
    refine pe_ri d_M_look_26 ?_
    exact ⟨rfl, trivial⟩
theorem t_M_draw {σ : pe_H} (hcm : pe_CM) (hB : pe_B σ) (hI0 : pe_MI σ) : pe_M m_M_draw [pe_r 29] σ (pe_qi (fun z σ' => pe_B σ' ∧ (∀ b, b ∉ [29, 37, 38, 39, 40, 41, 42, 43, 46] → σ' b = σ b) ∧ (∀ j, j ∉ ([26, 27, 30, 31, 36, 37, 38, 39, 40, 41, 43] : List Int) → σ' 29 j = σ 29 j) ∧ pe_MI σ')) := by
  refine pe_in0 (lv := [some (pe_r 29), none]) ?_
  have hB0 := hB
  have hI1 := hI0
  obtain ⟨hM0, hK0, hW, hp, hS, A44, hs, htop, hN⟩ := hI0
  have hM9 := hM0
  obtain ⟨hl, A30, A31, A36, ⟨hcu, hbg⟩, hma, hcl, hcg, hch⟩ := hM9
  obtain ⟨k1, k2, k3, k4, k5⟩ := id hK0
  have J84 : ∀ x : Int × pe_H, (pe_B x.2 ∧ (∀ b, b ∉ [29, 37, 38, 39, 40, 41, 42, 43, 46] → x.2 b = σ b) ∧ (∀ j, j ∉ ([26, 27, 30, 31, 36, 37, 38, 39, 40, 41, 43] : List Int) → x.2 29 j = σ 29 j) ∧ pe_SW (x.2 29) (x.2 42) ∧ pe_DW (x.2 29) (x.2 40) ∧ (0 ≤ x.2 29 30 ∧ x.2 29 30 < σ 29 22 ∧ 0 ≤ x.2 29 31 ∧ x.2 29 31 < σ 29 21) ∧ (0 ≤ x.2 29 27 ∧ x.2 29 27 ≤ 600) ∧ (0 ≤ x.2 29 36 ∧ x.2 29 36 < σ 29 22 ∧ 0 ≤ x.2 29 37 ∧ x.2 29 37 < σ 29 21 ∧ -1 ≤ x.2 29 40 ∧ x.2 29 40 < 192) ∧ (0 ≤ x.1 ∧ x.1 ≤ 8) ∧ (0 ≤ x.2 29 43 ∧ x.2 29 43 ≤ 10 + 611 * x.1)) → pe_G m_M_draw 84 [some (pe_r 29), some (pe_i x.1)] [] x.2 (pe_qi (fun z σ' => pe_B σ' ∧ (∀ b, b ∉ [29, 37, 38, 39, 40, 41, 42, 43, 46] → σ' b = σ b) ∧ (∀ j, j ∉ ([26, 27, 30, 31, 36, 37, 38, 39, 40, 41, 43] : List Int) → σ' 29 j = σ 29 j) ∧ pe_MI σ')) := by
    refine pe_loop (fun x : Int × pe_H => (300 - x.1).toNat) _ _ ?_
    intro x hI ih
    obtain ⟨i, τ⟩ := x
    dsimp only at hI ⊢
    obtain ⟨hB, hfr, hX⟩ := hI
    obtain ⟨hor, hS, hX⟩ := hX
    have w1 : τ 29 1 = σ 29 1 := hor 1 (by decide)
    have w2 : τ 29 2 = σ 29 2 := hor 2 (by decide)
    have w3 : τ 29 3 = σ 29 3 := hor 3 (by decide)
    have w5 : τ 29 5 = σ 29 5 := hor 5 (by decide)
    have w7 : τ 29 7 = σ 29 7 := hor 7 (by decide)
    have w14 : τ 29 14 = σ 29 14 := hor 14 (by decide)
    have w15 : τ 29 15 = σ 29 15 := hor 15 (by decide)
    have w16 : τ 29 16 = σ 29 16 := hor 16 (by decide)
    have w17 : τ 29 17 = σ 29 17 := hor 17 (by decide)
    have w18 : τ 29 18 = σ 29 18 := hor 18 (by decide)
    have w21 : τ 29 21 = σ 29 21 := hor 21 (by decide)
    have w22 : τ 29 22 = σ 29 22 := hor 22 (by decide)
    obtain ⟨hD, hX⟩ := hX
    have hBt := hB
    refine pe_iload_n d_M_draw_84 rfl ?_
    refine pe_aload_n d_M_draw_85 rfl ?_
    refine pe_geti f_M_81 d_M_draw_86 rfl rfl 22 rfl ?_
    refine pe_icmp_ge (t := 103) d_M_draw_89 (by first | exact hB _ _ | exact hB0 _ _ | exact hBt _ _ | exact ⟨by omega, by omega⟩) (by first | exact hB _ _ | exact hB0 _ _ | exact hBt _ _ | exact ⟨by omega, by omega⟩) (fun h89 => ?_) (fun h89 => ?_)
    · skip
      refine pe_aload_n d_M_draw_103 rfl ?_
      refine pe_aload_n d_M_draw_104 rfl ?_
      refine pe_geti f_M_234 d_M_draw_105 rfl rfl 30 rfl ?_
      refine pe_aload_n d_M_draw_108 rfl ?_
      refine pe_geti f_M_237 d_M_draw_109 rfl rfl 31 rfl ?_
      refine pe_iconst d_M_draw_112 ?_
      refine pe_v3v d_M_draw_113 c_M_284 i_M_go s_M_go rfl rfl (t_M_go hB (by omega) (by omega) (by omega) (by omega) (by omega) (by first | exact hB _ _ | exact hB0 _ _ | exact hBt _ _ | exact ⟨by omega, by omega⟩)) (fun σ113 hz113 => ?_)
      obtain ⟨hB, f113, o113, x113⟩ := hz113
      try have u113_0 : σ113 29 1 = τ 29 1 := by first | exact o113 1 (by decide) | exact congrFun (f113 29 (by decide)) 1
      try have u113_1 : σ113 29 2 = τ 29 2 := by first | exact o113 2 (by decide) | exact congrFun (f113 29 (by decide)) 2
      try have u113_2 : σ113 29 3 = τ 29 3 := by first | exact o113 3 (by decide) | exact congrFun (f113 29 (by decide)) 3
      try have u113_3 : σ113 29 5 = τ 29 5 := by first | exact o113 5 (by decide) | exact congrFun (f113 29 (by decide)) 5
      try have u113_4 : σ113 29 7 = τ 29 7 := by first | exact o113 7 (by decide) | exact congrFun (f113 29 (by decide)) 7
      try have u113_5 : σ113 29 14 = τ 29 14 := by first | exact o113 14 (by decide) | exact congrFun (f113 29 (by decide)) 14
      try have u113_6 : σ113 29 15 = τ 29 15 := by first | exact o113 15 (by decide) | exact congrFun (f113 29 (by decide)) 15
      try have u113_7 : σ113 29 16 = τ 29 16 := by first | exact o113 16 (by decide) | exact congrFun (f113 29 (by decide)) 16
      try have u113_8 : σ113 29 17 = τ 29 17 := by first | exact o113 17 (by decide) | exact congrFun (f113 29 (by decide)) 17
      try have u113_9 : σ113 29 18 = τ 29 18 := by first | exact o113 18 (by decide) | exact congrFun (f113 29 (by decide)) 18
      try have u113_10 : σ113 29 21 = τ 29 21 := by first | exact o113 21 (by decide) | exact congrFun (f113 29 (by decide)) 21
      try have u113_11 : σ113 29 22 = τ 29 22 := by first | exact o113 22 (by decide) | exact congrFun (f113 29 (by decide)) 22
      try have u113_12 : σ113 29 27 = τ 29 27 := by first | exact o113 27 (by decide) | exact congrFun (f113 29 (by decide)) 27
      try have u113_13 : σ113 29 30 = τ 29 30 := by first | exact o113 30 (by decide) | exact congrFun (f113 29 (by decide)) 30
      try have u113_14 : σ113 29 31 = τ 29 31 := by first | exact o113 31 (by decide) | exact congrFun (f113 29 (by decide)) 31
      try have u113_15 : σ113 29 36 = τ 29 36 := by first | exact o113 36 (by decide) | exact congrFun (f113 29 (by decide)) 36
      try have u113_16 : σ113 29 37 = τ 29 37 := by first | exact o113 37 (by decide) | exact congrFun (f113 29 (by decide)) 37
      try have u113_17 : σ113 29 38 = τ 29 38 := by first | exact o113 38 (by decide) | exact congrFun (f113 29 (by decide)) 38
      try have u113_18 : σ113 29 39 = τ 29 39 := by first | exact o113 39 (by decide) | exact congrFun (f113 29 (by decide)) 39
      try have u113_19 : σ113 29 40 = τ 29 40 := by first | exact o113 40 (by decide) | exact congrFun (f113 29 (by decide)) 40
      try have u113_20 : σ113 29 43 = τ 29 43 := by first | exact o113 43 (by decide) | exact congrFun (f113 29 (by decide)) 43
      refine pe_aload_n d_M_draw_116 rfl ?_
      refine pe_geti f_M_250 d_M_draw_117 rfl rfl 43 rfl ?_
      refine pe_ri d_M_draw_120 ?_
      exact ⟨hB, (fun b hb => (f113 b (by simp at hb ⊢; try omega)).trans (hfr b (by simp at hb ⊢; try omega))), (fun j hj => (o113 j (by simp at hj ⊢; try omega)).trans (hor j (by simp at hj ⊢; try omega))), ⟨pe_ME_to hM0 (by omega) (by omega) (by omega) (by omega) (by omega) ((f113 30 (by decide)).trans (hfr 30 (by decide))) ((f113 31 (by decide)).trans (hfr 31 (by decide))) ((f113 36 (by decide)).trans (hfr 36 (by decide))) ((f113 32 (by decide)).trans (hfr 32 (by decide))) ((f113 33 (by decide)).trans (hfr 33 (by decide))) ((f113 34 (by decide)).trans (hfr 34 (by decide))) ((f113 35 (by decide)).trans (hfr 35 (by decide))), ⟨by omega, by omega, by omega, by omega, by omega, by omega, by omega⟩, by omega, by omega, pe_SW_to hS (by omega) (by omega) ((f113 42 (by decide)).trans (rfl)), by rw [show σ113 44 = σ 44 from ((f113 44 (by decide)).trans (hfr 44 (by decide)))]; exact A44, by omega, by omega, by rw [show σ113 29 1 = σ 29 1 by omega, show σ113 30 = σ 30 from ((f113 30 (by decide)).trans (hfr 30 (by decide)))]; exact hN⟩⟩
    · skip
      refine pe_aload_n d_M_draw_92 rfl ?_
      refine pe_iload_n d_M_draw_93 rfl ?_
      refine pe_v1v d_M_draw_94 c_M_306 i_M_drawRow s_M_drawRow rfl rfl (t_M_drawRow hB (by omega) (by omega) (by omega) hS hD (by omega)) (fun σ94 hz94 => ?_)
      obtain ⟨hB, f94, o94, x94⟩ := hz94
      try have u94_0 : σ94 29 1 = τ 29 1 := by first | exact o94 1 (by decide) | exact congrFun (f94 29 (by decide)) 1
      try have u94_1 : σ94 29 2 = τ 29 2 := by first | exact o94 2 (by decide) | exact congrFun (f94 29 (by decide)) 2
      try have u94_2 : σ94 29 3 = τ 29 3 := by first | exact o94 3 (by decide) | exact congrFun (f94 29 (by decide)) 3
      try have u94_3 : σ94 29 5 = τ 29 5 := by first | exact o94 5 (by decide) | exact congrFun (f94 29 (by decide)) 5
      try have u94_4 : σ94 29 7 = τ 29 7 := by first | exact o94 7 (by decide) | exact congrFun (f94 29 (by decide)) 7
      try have u94_5 : σ94 29 14 = τ 29 14 := by first | exact o94 14 (by decide) | exact congrFun (f94 29 (by decide)) 14
      try have u94_6 : σ94 29 15 = τ 29 15 := by first | exact o94 15 (by decide) | exact congrFun (f94 29 (by decide)) 15
      try have u94_7 : σ94 29 16 = τ 29 16 := by first | exact o94 16 (by decide) | exact congrFun (f94 29 (by decide)) 16
      try have u94_8 : σ94 29 17 = τ 29 17 := by first | exact o94 17 (by decide) | exact congrFun (f94 29 (by decide)) 17
      try have u94_9 : σ94 29 18 = τ 29 18 := by first | exact o94 18 (by decide) | exact congrFun (f94 29 (by decide)) 18
      try have u94_10 : σ94 29 21 = τ 29 21 := by first | exact o94 21 (by decide) | exact congrFun (f94 29 (by decide)) 21
      try have u94_11 : σ94 29 22 = τ 29 22 := by first | exact o94 22 (by decide) | exact congrFun (f94 29 (by decide)) 22
      try have u94_12 : σ94 29 27 = τ 29 27 := by first | exact o94 27 (by decide) | exact congrFun (f94 29 (by decide)) 27
      try have u94_13 : σ94 29 30 = τ 29 30 := by first | exact o94 30 (by decide) | exact congrFun (f94 29 (by decide)) 30
      try have u94_14 : σ94 29 31 = τ 29 31 := by first | exact o94 31 (by decide) | exact congrFun (f94 29 (by decide)) 31
      try have u94_15 : σ94 29 36 = τ 29 36 := by first | exact o94 36 (by decide) | exact congrFun (f94 29 (by decide)) 36
      try have u94_16 : σ94 29 37 = τ 29 37 := by first | exact o94 37 (by decide) | exact congrFun (f94 29 (by decide)) 37
      try have u94_17 : σ94 29 38 = τ 29 38 := by first | exact o94 38 (by decide) | exact congrFun (f94 29 (by decide)) 38
      try have u94_18 : σ94 29 39 = τ 29 39 := by first | exact o94 39 (by decide) | exact congrFun (f94 29 (by decide)) 39
      try have u94_19 : σ94 29 40 = τ 29 40 := by first | exact o94 40 (by decide) | exact congrFun (f94 29 (by decide)) 40
      try have u94_20 : σ94 29 43 = τ 29 43 := by first | exact o94 43 (by decide) | exact congrFun (f94 29 (by decide)) 43
      refine pe_iinc d_M_draw_97 rfl ?_
      refine pe_goto (t := 84) d_M_draw_100 ?_
      exact ih (_, _) ⟨hB, (fun b hb => (f94 b (by simp at hb ⊢; try omega)).trans (hfr b (by simp at hb ⊢; try omega))), (fun j hj => (o94 j (by simp at hj ⊢; try omega)).trans (hor j (by simp at hj ⊢; try omega))), x94.1, pe_DW_to hD (by first | rfl | omega | (dsimp only; omega)) (by first | rfl | omega | (dsimp only; omega)) (f94 40 (by decide)), by (try dsimp only); omega⟩ (by (try dsimp only); omega)
  have J39 : ∀ x : Int × pe_H, (pe_B x.2 ∧ (∀ b, b ∉ [29, 37, 38, 39, 40, 41, 42, 43, 46] → x.2 b = σ b) ∧ (∀ j, j ∉ ([26, 27, 30, 31, 36, 37, 38, 39, 40, 41, 43] : List Int) → x.2 29 j = σ 29 j) ∧ pe_SW (x.2 29) (x.2 42) ∧ pe_DW (x.2 29) (x.2 40) ∧ (0 ≤ x.2 29 30 ∧ x.2 29 30 < σ 29 22 ∧ 0 ≤ x.2 29 31 ∧ x.2 29 31 < σ 29 21) ∧ (0 ≤ x.2 29 27 ∧ x.2 29 27 ≤ 600) ∧ (0 ≤ x.2 29 36 ∧ x.2 29 36 < σ 29 22 ∧ 0 ≤ x.2 29 37 ∧ x.2 29 37 < σ 29 21 ∧ -1 ≤ x.2 29 40 ∧ x.2 29 40 < 192) ∧ (0 ≤ x.1 ∧ x.1 ≤ 192) ∧ (0 ≤ x.2 29 43 ∧ x.2 29 43 ≤ 10)) → pe_G m_M_draw 39 [some (pe_r 29), some (pe_i x.1)] [] x.2 (pe_qi (fun z σ' => pe_B σ' ∧ (∀ b, b ∉ [29, 37, 38, 39, 40, 41, 42, 43, 46] → σ' b = σ b) ∧ (∀ j, j ∉ ([26, 27, 30, 31, 36, 37, 38, 39, 40, 41, 43] : List Int) → σ' 29 j = σ 29 j) ∧ pe_MI σ')) := by
    refine pe_loop (fun x : Int × pe_H => (300 - x.1).toNat) _ _ ?_
    intro x hI ih
    obtain ⟨i, τ⟩ := x
    dsimp only at hI ⊢
    obtain ⟨hB, hfr, hX⟩ := hI
    obtain ⟨hor, hS, hX⟩ := hX
    have w1 : τ 29 1 = σ 29 1 := hor 1 (by decide)
    have w2 : τ 29 2 = σ 29 2 := hor 2 (by decide)
    have w3 : τ 29 3 = σ 29 3 := hor 3 (by decide)
    have w5 : τ 29 5 = σ 29 5 := hor 5 (by decide)
    have w7 : τ 29 7 = σ 29 7 := hor 7 (by decide)
    have w14 : τ 29 14 = σ 29 14 := hor 14 (by decide)
    have w15 : τ 29 15 = σ 29 15 := hor 15 (by decide)
    have w16 : τ 29 16 = σ 29 16 := hor 16 (by decide)
    have w17 : τ 29 17 = σ 29 17 := hor 17 (by decide)
    have w18 : τ 29 18 = σ 29 18 := hor 18 (by decide)
    have w21 : τ 29 21 = σ 29 21 := hor 21 (by decide)
    have w22 : τ 29 22 = σ 29 22 := hor 22 (by decide)
    obtain ⟨hD, hX⟩ := hX
    have hBt := hB
    refine pe_iload_n d_M_draw_39 rfl ?_
    refine pe_sipush d_M_draw_40 ?_
    refine pe_icmp_ge (t := 67) d_M_draw_43 (by first | exact hB _ _ | exact hB0 _ _ | exact hBt _ _ | exact ⟨by omega, by omega⟩) (by first | exact hB _ _ | exact hB0 _ _ | exact hBt _ _ | exact ⟨by omega, by omega⟩) (fun h43 => ?_) (fun h43 => ?_)
    · skip
      refine pe_aload_n d_M_draw_67 rfl ?_
      refine pe_iconst d_M_draw_68 ?_
      refine pe_putzT f_M_260 g_11_38 d_M_draw_69 rfl rfl (by first | exact Or.inl rfl | exact Or.inr rfl | omega) 38 rfl hB (fun σ69 hB e69 o69 f69 => ?_)
      try have u69_0 : σ69 29 1 = τ 29 1 := by first | exact o69 1 (by decide) | exact congrFun (f69 29 (by decide)) 1
      try have u69_1 : σ69 29 2 = τ 29 2 := by first | exact o69 2 (by decide) | exact congrFun (f69 29 (by decide)) 2
      try have u69_2 : σ69 29 3 = τ 29 3 := by first | exact o69 3 (by decide) | exact congrFun (f69 29 (by decide)) 3
      try have u69_3 : σ69 29 5 = τ 29 5 := by first | exact o69 5 (by decide) | exact congrFun (f69 29 (by decide)) 5
      try have u69_4 : σ69 29 7 = τ 29 7 := by first | exact o69 7 (by decide) | exact congrFun (f69 29 (by decide)) 7
      try have u69_5 : σ69 29 14 = τ 29 14 := by first | exact o69 14 (by decide) | exact congrFun (f69 29 (by decide)) 14
      try have u69_6 : σ69 29 15 = τ 29 15 := by first | exact o69 15 (by decide) | exact congrFun (f69 29 (by decide)) 15
      try have u69_7 : σ69 29 16 = τ 29 16 := by first | exact o69 16 (by decide) | exact congrFun (f69 29 (by decide)) 16
      try have u69_8 : σ69 29 17 = τ 29 17 := by first | exact o69 17 (by decide) | exact congrFun (f69 29 (by decide)) 17
      try have u69_9 : σ69 29 18 = τ 29 18 := by first | exact o69 18 (by decide) | exact congrFun (f69 29 (by decide)) 18
      try have u69_10 : σ69 29 21 = τ 29 21 := by first | exact o69 21 (by decide) | exact congrFun (f69 29 (by decide)) 21
      try have u69_11 : σ69 29 22 = τ 29 22 := by first | exact o69 22 (by decide) | exact congrFun (f69 29 (by decide)) 22
      try have u69_12 : σ69 29 27 = τ 29 27 := by first | exact o69 27 (by decide) | exact congrFun (f69 29 (by decide)) 27
      try have u69_13 : σ69 29 30 = τ 29 30 := by first | exact o69 30 (by decide) | exact congrFun (f69 29 (by decide)) 30
      try have u69_14 : σ69 29 31 = τ 29 31 := by first | exact o69 31 (by decide) | exact congrFun (f69 29 (by decide)) 31
      try have u69_15 : σ69 29 36 = τ 29 36 := by first | exact o69 36 (by decide) | exact congrFun (f69 29 (by decide)) 36
      try have u69_16 : σ69 29 37 = τ 29 37 := by first | exact o69 37 (by decide) | exact congrFun (f69 29 (by decide)) 37
      try have u69_17 : σ69 29 38 = τ 29 38 := by first | exact o69 38 (by decide) | exact congrFun (f69 29 (by decide)) 38
      try have u69_18 : σ69 29 39 = τ 29 39 := by first | exact o69 39 (by decide) | exact congrFun (f69 29 (by decide)) 39
      try have u69_19 : σ69 29 40 = τ 29 40 := by first | exact o69 40 (by decide) | exact congrFun (f69 29 (by decide)) 40
      try have u69_20 : σ69 29 43 = τ 29 43 := by first | exact o69 43 (by decide) | exact congrFun (f69 29 (by decide)) 43
      refine pe_aload_n d_M_draw_72 rfl ?_
      refine pe_iconst d_M_draw_73 ?_
      refine pe_putiT f_M_68 g_11_40 d_M_draw_74 rfl rfl 40 rfl hB (by first | exact hB _ _ | exact hB0 _ _ | exact hBt _ _ | exact ⟨by omega, by omega⟩) (fun σ74 hB e74 o74 f74 => ?_)
      try have u74_0 : σ74 29 1 = σ69 29 1 := by first | exact o74 1 (by decide) | exact congrFun (f74 29 (by decide)) 1
      try have u74_1 : σ74 29 2 = σ69 29 2 := by first | exact o74 2 (by decide) | exact congrFun (f74 29 (by decide)) 2
      try have u74_2 : σ74 29 3 = σ69 29 3 := by first | exact o74 3 (by decide) | exact congrFun (f74 29 (by decide)) 3
      try have u74_3 : σ74 29 5 = σ69 29 5 := by first | exact o74 5 (by decide) | exact congrFun (f74 29 (by decide)) 5
      try have u74_4 : σ74 29 7 = σ69 29 7 := by first | exact o74 7 (by decide) | exact congrFun (f74 29 (by decide)) 7
      try have u74_5 : σ74 29 14 = σ69 29 14 := by first | exact o74 14 (by decide) | exact congrFun (f74 29 (by decide)) 14
      try have u74_6 : σ74 29 15 = σ69 29 15 := by first | exact o74 15 (by decide) | exact congrFun (f74 29 (by decide)) 15
      try have u74_7 : σ74 29 16 = σ69 29 16 := by first | exact o74 16 (by decide) | exact congrFun (f74 29 (by decide)) 16
      try have u74_8 : σ74 29 17 = σ69 29 17 := by first | exact o74 17 (by decide) | exact congrFun (f74 29 (by decide)) 17
      try have u74_9 : σ74 29 18 = σ69 29 18 := by first | exact o74 18 (by decide) | exact congrFun (f74 29 (by decide)) 18
      try have u74_10 : σ74 29 21 = σ69 29 21 := by first | exact o74 21 (by decide) | exact congrFun (f74 29 (by decide)) 21
      try have u74_11 : σ74 29 22 = σ69 29 22 := by first | exact o74 22 (by decide) | exact congrFun (f74 29 (by decide)) 22
      try have u74_12 : σ74 29 27 = σ69 29 27 := by first | exact o74 27 (by decide) | exact congrFun (f74 29 (by decide)) 27
      try have u74_13 : σ74 29 30 = σ69 29 30 := by first | exact o74 30 (by decide) | exact congrFun (f74 29 (by decide)) 30
      try have u74_14 : σ74 29 31 = σ69 29 31 := by first | exact o74 31 (by decide) | exact congrFun (f74 29 (by decide)) 31
      try have u74_15 : σ74 29 36 = σ69 29 36 := by first | exact o74 36 (by decide) | exact congrFun (f74 29 (by decide)) 36
      try have u74_16 : σ74 29 37 = σ69 29 37 := by first | exact o74 37 (by decide) | exact congrFun (f74 29 (by decide)) 37
      try have u74_17 : σ74 29 38 = σ69 29 38 := by first | exact o74 38 (by decide) | exact congrFun (f74 29 (by decide)) 38
      try have u74_18 : σ74 29 39 = σ69 29 39 := by first | exact o74 39 (by decide) | exact congrFun (f74 29 (by decide)) 39
      try have u74_19 : σ74 29 40 = σ69 29 40 := by first | exact o74 40 (by decide) | exact congrFun (f74 29 (by decide)) 40
      try have u74_20 : σ74 29 43 = σ69 29 43 := by first | exact o74 43 (by decide) | exact congrFun (f74 29 (by decide)) 43
      refine pe_aload_n d_M_draw_77 rfl ?_
      refine pe_iconst d_M_draw_78 ?_
      refine pe_putzT f_M_71 g_11_41 d_M_draw_79 rfl rfl (by first | exact Or.inl rfl | exact Or.inr rfl | omega) 41 rfl hB (fun σ79 hB e79 o79 f79 => ?_)
      try have u79_0 : σ79 29 1 = σ74 29 1 := by first | exact o79 1 (by decide) | exact congrFun (f79 29 (by decide)) 1
      try have u79_1 : σ79 29 2 = σ74 29 2 := by first | exact o79 2 (by decide) | exact congrFun (f79 29 (by decide)) 2
      try have u79_2 : σ79 29 3 = σ74 29 3 := by first | exact o79 3 (by decide) | exact congrFun (f79 29 (by decide)) 3
      try have u79_3 : σ79 29 5 = σ74 29 5 := by first | exact o79 5 (by decide) | exact congrFun (f79 29 (by decide)) 5
      try have u79_4 : σ79 29 7 = σ74 29 7 := by first | exact o79 7 (by decide) | exact congrFun (f79 29 (by decide)) 7
      try have u79_5 : σ79 29 14 = σ74 29 14 := by first | exact o79 14 (by decide) | exact congrFun (f79 29 (by decide)) 14
      try have u79_6 : σ79 29 15 = σ74 29 15 := by first | exact o79 15 (by decide) | exact congrFun (f79 29 (by decide)) 15
      try have u79_7 : σ79 29 16 = σ74 29 16 := by first | exact o79 16 (by decide) | exact congrFun (f79 29 (by decide)) 16
      try have u79_8 : σ79 29 17 = σ74 29 17 := by first | exact o79 17 (by decide) | exact congrFun (f79 29 (by decide)) 17
      try have u79_9 : σ79 29 18 = σ74 29 18 := by first | exact o79 18 (by decide) | exact congrFun (f79 29 (by decide)) 18
      try have u79_10 : σ79 29 21 = σ74 29 21 := by first | exact o79 21 (by decide) | exact congrFun (f79 29 (by decide)) 21
      try have u79_11 : σ79 29 22 = σ74 29 22 := by first | exact o79 22 (by decide) | exact congrFun (f79 29 (by decide)) 22
      try have u79_12 : σ79 29 27 = σ74 29 27 := by first | exact o79 27 (by decide) | exact congrFun (f79 29 (by decide)) 27
      try have u79_13 : σ79 29 30 = σ74 29 30 := by first | exact o79 30 (by decide) | exact congrFun (f79 29 (by decide)) 30
      try have u79_14 : σ79 29 31 = σ74 29 31 := by first | exact o79 31 (by decide) | exact congrFun (f79 29 (by decide)) 31
      try have u79_15 : σ79 29 36 = σ74 29 36 := by first | exact o79 36 (by decide) | exact congrFun (f79 29 (by decide)) 36
      try have u79_16 : σ79 29 37 = σ74 29 37 := by first | exact o79 37 (by decide) | exact congrFun (f79 29 (by decide)) 37
      try have u79_17 : σ79 29 38 = σ74 29 38 := by first | exact o79 38 (by decide) | exact congrFun (f79 29 (by decide)) 38
      try have u79_18 : σ79 29 39 = σ74 29 39 := by first | exact o79 39 (by decide) | exact congrFun (f79 29 (by decide)) 39
      try have u79_19 : σ79 29 40 = σ74 29 40 := by first | exact o79 40 (by decide) | exact congrFun (f79 29 (by decide)) 40
      try have u79_20 : σ79 29 43 = σ74 29 43 := by first | exact o79 43 (by decide) | exact congrFun (f79 29 (by decide)) 43
      refine pe_iconst d_M_draw_82 ?_
      refine pe_istore_n d_M_draw_83 ?_
      first
      | exact J84 (_, _) ⟨hB, (fun b hb => (f79 b (by simp at hb ⊢; try omega)).trans ((f74 b (by simp at hb ⊢; try omega)).trans ((f69 b (by simp at hb ⊢; try omega)).trans (hfr b (by simp at hb ⊢; try omega))))), (fun j hj => (o79 j (by simp at hj ⊢; try omega)).trans ((o74 j (by simp at hj ⊢; try omega)).trans ((o69 j (by simp at hj ⊢; try omega)).trans (hor j (by simp at hj ⊢; try omega))))), pe_SW_to hS (by first | rfl | omega | (dsimp only; omega)) (by first | rfl | omega | (dsimp only; omega)) ((f79 42 (by decide)).trans ((f74 42 (by decide)).trans ((f69 42 (by decide)).trans (rfl)))), pe_DW_to hD (by first | rfl | omega | (dsimp only; omega)) (by first | rfl | omega | (dsimp only; omega)) ((f79 40 (by decide)).trans ((f74 40 (by decide)).trans ((f69 40 (by decide)).trans (rfl)))), by (try dsimp only); omega⟩
      | exact pe_drop 1 (J84 (_, _) ⟨hB, (fun b hb => (f79 b (by simp at hb ⊢; try omega)).trans ((f74 b (by simp at hb ⊢; try omega)).trans ((f69 b (by simp at hb ⊢; try omega)).trans (hfr b (by simp at hb ⊢; try omega))))), (fun j hj => (o79 j (by simp at hj ⊢; try omega)).trans ((o74 j (by simp at hj ⊢; try omega)).trans ((o69 j (by simp at hj ⊢; try omega)).trans (hor j (by simp at hj ⊢; try omega))))), pe_SW_to hS (by first | rfl | omega | (dsimp only; omega)) (by first | rfl | omega | (dsimp only; omega)) ((f79 42 (by decide)).trans ((f74 42 (by decide)).trans ((f69 42 (by decide)).trans (hfr 42 (by decide))))), pe_DW_to x6.1 (by first | rfl | omega | (dsimp only; omega)) (by first | rfl | omega | (dsimp only; omega)) ((f79 40 (by decide)).trans ((f74 40 (by decide)).trans ((f69 40 (by decide)).trans (rfl)))), by (try dsimp only); omega⟩)
      | exact J84 (_, _) ⟨hB, (fun b hb => (f79 b (by simp at hb ⊢; try omega)).trans ((f74 b (by simp at hb ⊢; try omega)).trans ((f69 b (by simp at hb ⊢; try omega)).trans (hfr b (by simp at hb ⊢; try omega))))), (fun j hj => (o79 j (by simp at hj ⊢; try omega)).trans ((o74 j (by simp at hj ⊢; try omega)).trans ((o69 j (by simp at hj ⊢; try omega)).trans (hor j (by simp at hj ⊢; try omega))))), pe_SW_to hS (by first | rfl | omega | (dsimp only; omega)) (by first | rfl | omega | (dsimp only; omega)) ((f79 42 (by decide)).trans ((f74 42 (by decide)).trans ((f69 42 (by decide)).trans (hfr 42 (by decide))))), pe_DW_to x6.1 (by first | rfl | omega | (dsimp only; omega)) (by first | rfl | omega | (dsimp only; omega)) ((f79 40 (by decide)).trans ((f74 40 (by decide)).trans ((f69 40 (by decide)).trans (rfl)))), by (try dsimp only); omega⟩
    · skip
      refine pe_aload_n d_M_draw_46 rfl ?_
      refine pe_getr f_M_56 d_M_draw_47 rfl rfl ?_
      refine pe_iload_n d_M_draw_50 rfl ?_
      refine pe_bipush d_M_draw_51 ?_
      refine pe_iastT d_M_draw_53 rfl (by omega) (by omega) hB (by first | exact hB _ _ | exact hB0 _ _ | exact hBt _ _ | exact ⟨by omega, by omega⟩) (fun σ53 hB e53 o53 f53 => ?_)
      try have u53_0 : σ53 29 1 = τ 29 1 := by first | exact o53 1 (by decide) | exact congrFun (f53 29 (by decide)) 1
      try have u53_1 : σ53 29 2 = τ 29 2 := by first | exact o53 2 (by decide) | exact congrFun (f53 29 (by decide)) 2
      try have u53_2 : σ53 29 3 = τ 29 3 := by first | exact o53 3 (by decide) | exact congrFun (f53 29 (by decide)) 3
      try have u53_3 : σ53 29 5 = τ 29 5 := by first | exact o53 5 (by decide) | exact congrFun (f53 29 (by decide)) 5
      try have u53_4 : σ53 29 7 = τ 29 7 := by first | exact o53 7 (by decide) | exact congrFun (f53 29 (by decide)) 7
      try have u53_5 : σ53 29 14 = τ 29 14 := by first | exact o53 14 (by decide) | exact congrFun (f53 29 (by decide)) 14
      try have u53_6 : σ53 29 15 = τ 29 15 := by first | exact o53 15 (by decide) | exact congrFun (f53 29 (by decide)) 15
      try have u53_7 : σ53 29 16 = τ 29 16 := by first | exact o53 16 (by decide) | exact congrFun (f53 29 (by decide)) 16
      try have u53_8 : σ53 29 17 = τ 29 17 := by first | exact o53 17 (by decide) | exact congrFun (f53 29 (by decide)) 17
      try have u53_9 : σ53 29 18 = τ 29 18 := by first | exact o53 18 (by decide) | exact congrFun (f53 29 (by decide)) 18
      try have u53_10 : σ53 29 21 = τ 29 21 := by first | exact o53 21 (by decide) | exact congrFun (f53 29 (by decide)) 21
      try have u53_11 : σ53 29 22 = τ 29 22 := by first | exact o53 22 (by decide) | exact congrFun (f53 29 (by decide)) 22
      try have u53_12 : σ53 29 27 = τ 29 27 := by first | exact o53 27 (by decide) | exact congrFun (f53 29 (by decide)) 27
      try have u53_13 : σ53 29 30 = τ 29 30 := by first | exact o53 30 (by decide) | exact congrFun (f53 29 (by decide)) 30
      try have u53_14 : σ53 29 31 = τ 29 31 := by first | exact o53 31 (by decide) | exact congrFun (f53 29 (by decide)) 31
      try have u53_15 : σ53 29 36 = τ 29 36 := by first | exact o53 36 (by decide) | exact congrFun (f53 29 (by decide)) 36
      try have u53_16 : σ53 29 37 = τ 29 37 := by first | exact o53 37 (by decide) | exact congrFun (f53 29 (by decide)) 37
      try have u53_17 : σ53 29 38 = τ 29 38 := by first | exact o53 38 (by decide) | exact congrFun (f53 29 (by decide)) 38
      try have u53_18 : σ53 29 39 = τ 29 39 := by first | exact o53 39 (by decide) | exact congrFun (f53 29 (by decide)) 39
      try have u53_19 : σ53 29 40 = τ 29 40 := by first | exact o53 40 (by decide) | exact congrFun (f53 29 (by decide)) 40
      try have u53_20 : σ53 29 43 = τ 29 43 := by first | exact o53 43 (by decide) | exact congrFun (f53 29 (by decide)) 43
      have hS9 : pe_SW (τ 29) (σ53 42) := pe_SW_up hS e53 o53 (by omega) (by omega) (fun z => absurd z (pe_nw (by omega)))
      refine pe_aload_n d_M_draw_54 rfl ?_
      refine pe_getr f_M_59 d_M_draw_55 rfl rfl ?_
      refine pe_iload_n d_M_draw_58 rfl ?_
      refine pe_iconst d_M_draw_59 ?_
      refine pe_iastT d_M_draw_60 rfl (by omega) (by omega) hB (by first | exact hB _ _ | exact hB0 _ _ | exact hBt _ _ | exact ⟨by omega, by omega⟩) (fun σ60 hB e60 o60 f60 => ?_)
      try have u60_0 : σ60 29 1 = σ53 29 1 := by first | exact o60 1 (by decide) | exact congrFun (f60 29 (by decide)) 1
      try have u60_1 : σ60 29 2 = σ53 29 2 := by first | exact o60 2 (by decide) | exact congrFun (f60 29 (by decide)) 2
      try have u60_2 : σ60 29 3 = σ53 29 3 := by first | exact o60 3 (by decide) | exact congrFun (f60 29 (by decide)) 3
      try have u60_3 : σ60 29 5 = σ53 29 5 := by first | exact o60 5 (by decide) | exact congrFun (f60 29 (by decide)) 5
      try have u60_4 : σ60 29 7 = σ53 29 7 := by first | exact o60 7 (by decide) | exact congrFun (f60 29 (by decide)) 7
      try have u60_5 : σ60 29 14 = σ53 29 14 := by first | exact o60 14 (by decide) | exact congrFun (f60 29 (by decide)) 14
      try have u60_6 : σ60 29 15 = σ53 29 15 := by first | exact o60 15 (by decide) | exact congrFun (f60 29 (by decide)) 15
      try have u60_7 : σ60 29 16 = σ53 29 16 := by first | exact o60 16 (by decide) | exact congrFun (f60 29 (by decide)) 16
      try have u60_8 : σ60 29 17 = σ53 29 17 := by first | exact o60 17 (by decide) | exact congrFun (f60 29 (by decide)) 17
      try have u60_9 : σ60 29 18 = σ53 29 18 := by first | exact o60 18 (by decide) | exact congrFun (f60 29 (by decide)) 18
      try have u60_10 : σ60 29 21 = σ53 29 21 := by first | exact o60 21 (by decide) | exact congrFun (f60 29 (by decide)) 21
      try have u60_11 : σ60 29 22 = σ53 29 22 := by first | exact o60 22 (by decide) | exact congrFun (f60 29 (by decide)) 22
      try have u60_12 : σ60 29 27 = σ53 29 27 := by first | exact o60 27 (by decide) | exact congrFun (f60 29 (by decide)) 27
      try have u60_13 : σ60 29 30 = σ53 29 30 := by first | exact o60 30 (by decide) | exact congrFun (f60 29 (by decide)) 30
      try have u60_14 : σ60 29 31 = σ53 29 31 := by first | exact o60 31 (by decide) | exact congrFun (f60 29 (by decide)) 31
      try have u60_15 : σ60 29 36 = σ53 29 36 := by first | exact o60 36 (by decide) | exact congrFun (f60 29 (by decide)) 36
      try have u60_16 : σ60 29 37 = σ53 29 37 := by first | exact o60 37 (by decide) | exact congrFun (f60 29 (by decide)) 37
      try have u60_17 : σ60 29 38 = σ53 29 38 := by first | exact o60 38 (by decide) | exact congrFun (f60 29 (by decide)) 38
      try have u60_18 : σ60 29 39 = σ53 29 39 := by first | exact o60 39 (by decide) | exact congrFun (f60 29 (by decide)) 39
      try have u60_19 : σ60 29 40 = σ53 29 40 := by first | exact o60 40 (by decide) | exact congrFun (f60 29 (by decide)) 40
      try have u60_20 : σ60 29 43 = σ53 29 43 := by first | exact o60 43 (by decide) | exact congrFun (f60 29 (by decide)) 43
      refine pe_iinc d_M_draw_61 rfl ?_
      refine pe_goto (t := 39) d_M_draw_64 ?_
      exact ih (_, _) ⟨hB, (fun b hb => (f60 b (by simp at hb ⊢; try omega)).trans ((f53 b (by simp at hb ⊢; try omega)).trans (hfr b (by simp at hb ⊢; try omega)))), (fun j hj => (congrFun (f60 29 (by decide)) j).trans ((congrFun (f53 29 (by decide)) j).trans (hor j (by simp at hj ⊢; try omega)))), pe_SW_to hS9 (by first | rfl | omega | (dsimp only; omega)) (by first | rfl | omega | (dsimp only; omega)) (f60 42 (by decide)), pe_DW_to hD (by first | rfl | omega | (dsimp only; omega)) (by first | rfl | omega | (dsimp only; omega)) ((f60 40 (by decide)).trans (f53 40 (by decide))), by (try dsimp only); omega⟩ (by (try dsimp only); omega)
  refine pe_aload_n d_M_draw_0 rfl ?_
  refine pe_iconst d_M_draw_1 ?_
  refine pe_putiT f_M_250 g_11_43 d_M_draw_2 rfl rfl 43 rfl hB (by first | exact hB _ _ | exact hB0 _ _ | exact hBt _ _ | exact ⟨by omega, by omega⟩) (fun σ2 hB e2 o2 f2 => ?_)
  try have u2_0 : σ2 29 1 = σ 29 1 := by first | exact o2 1 (by decide) | exact congrFun (f2 29 (by decide)) 1
  try have u2_1 : σ2 29 2 = σ 29 2 := by first | exact o2 2 (by decide) | exact congrFun (f2 29 (by decide)) 2
  try have u2_2 : σ2 29 3 = σ 29 3 := by first | exact o2 3 (by decide) | exact congrFun (f2 29 (by decide)) 3
  try have u2_3 : σ2 29 5 = σ 29 5 := by first | exact o2 5 (by decide) | exact congrFun (f2 29 (by decide)) 5
  try have u2_4 : σ2 29 7 = σ 29 7 := by first | exact o2 7 (by decide) | exact congrFun (f2 29 (by decide)) 7
  try have u2_5 : σ2 29 14 = σ 29 14 := by first | exact o2 14 (by decide) | exact congrFun (f2 29 (by decide)) 14
  try have u2_6 : σ2 29 15 = σ 29 15 := by first | exact o2 15 (by decide) | exact congrFun (f2 29 (by decide)) 15
  try have u2_7 : σ2 29 16 = σ 29 16 := by first | exact o2 16 (by decide) | exact congrFun (f2 29 (by decide)) 16
  try have u2_8 : σ2 29 17 = σ 29 17 := by first | exact o2 17 (by decide) | exact congrFun (f2 29 (by decide)) 17
  try have u2_9 : σ2 29 18 = σ 29 18 := by first | exact o2 18 (by decide) | exact congrFun (f2 29 (by decide)) 18
  try have u2_10 : σ2 29 21 = σ 29 21 := by first | exact o2 21 (by decide) | exact congrFun (f2 29 (by decide)) 21
  try have u2_11 : σ2 29 22 = σ 29 22 := by first | exact o2 22 (by decide) | exact congrFun (f2 29 (by decide)) 22
  try have u2_12 : σ2 29 27 = σ 29 27 := by first | exact o2 27 (by decide) | exact congrFun (f2 29 (by decide)) 27
  try have u2_13 : σ2 29 30 = σ 29 30 := by first | exact o2 30 (by decide) | exact congrFun (f2 29 (by decide)) 30
  try have u2_14 : σ2 29 31 = σ 29 31 := by first | exact o2 31 (by decide) | exact congrFun (f2 29 (by decide)) 31
  try have u2_15 : σ2 29 36 = σ 29 36 := by first | exact o2 36 (by decide) | exact congrFun (f2 29 (by decide)) 36
  try have u2_16 : σ2 29 37 = σ 29 37 := by first | exact o2 37 (by decide) | exact congrFun (f2 29 (by decide)) 37
  try have u2_17 : σ2 29 38 = σ 29 38 := by first | exact o2 38 (by decide) | exact congrFun (f2 29 (by decide)) 38
  try have u2_18 : σ2 29 39 = σ 29 39 := by first | exact o2 39 (by decide) | exact congrFun (f2 29 (by decide)) 39
  try have u2_19 : σ2 29 40 = σ 29 40 := by first | exact o2 40 (by decide) | exact congrFun (f2 29 (by decide)) 40
  try have u2_20 : σ2 29 43 = σ 29 43 := by first | exact o2 43 (by decide) | exact congrFun (f2 29 (by decide)) 43
  refine pe_aload_n d_M_draw_5 rfl ?_
  refine pe_v0v d_M_draw_6 c_M_303 i_M_compose s_M_compose rfl rfl (hcm _ hB (pe_ME_to hM0 (by omega) (by omega) (by omega) (by omega) (by omega) ((f2 30 (by decide)).trans (rfl)) ((f2 31 (by decide)).trans (rfl)) ((f2 36 (by decide)).trans (rfl)) ((f2 32 (by decide)).trans (rfl)) ((f2 33 (by decide)).trans (rfl)) ((f2 34 (by decide)).trans (rfl)) ((f2 35 (by decide)).trans (rfl))) (by omega) (by omega) (by rw [show σ2 29 1 = σ 29 1 by omega, show σ2 30 = σ 30 from ((f2 30 (by decide)).trans (rfl))]; exact hN)) (fun σ6 hz6 => ?_)
  obtain ⟨hB, f6, o6, x6⟩ := hz6
  try have u6_0 : σ6 29 1 = σ2 29 1 := by first | exact o6 1 (by decide) | exact congrFun (f6 29 (by decide)) 1
  try have u6_1 : σ6 29 2 = σ2 29 2 := by first | exact o6 2 (by decide) | exact congrFun (f6 29 (by decide)) 2
  try have u6_2 : σ6 29 3 = σ2 29 3 := by first | exact o6 3 (by decide) | exact congrFun (f6 29 (by decide)) 3
  try have u6_3 : σ6 29 5 = σ2 29 5 := by first | exact o6 5 (by decide) | exact congrFun (f6 29 (by decide)) 5
  try have u6_4 : σ6 29 7 = σ2 29 7 := by first | exact o6 7 (by decide) | exact congrFun (f6 29 (by decide)) 7
  try have u6_5 : σ6 29 14 = σ2 29 14 := by first | exact o6 14 (by decide) | exact congrFun (f6 29 (by decide)) 14
  try have u6_6 : σ6 29 15 = σ2 29 15 := by first | exact o6 15 (by decide) | exact congrFun (f6 29 (by decide)) 15
  try have u6_7 : σ6 29 16 = σ2 29 16 := by first | exact o6 16 (by decide) | exact congrFun (f6 29 (by decide)) 16
  try have u6_8 : σ6 29 17 = σ2 29 17 := by first | exact o6 17 (by decide) | exact congrFun (f6 29 (by decide)) 17
  try have u6_9 : σ6 29 18 = σ2 29 18 := by first | exact o6 18 (by decide) | exact congrFun (f6 29 (by decide)) 18
  try have u6_10 : σ6 29 21 = σ2 29 21 := by first | exact o6 21 (by decide) | exact congrFun (f6 29 (by decide)) 21
  try have u6_11 : σ6 29 22 = σ2 29 22 := by first | exact o6 22 (by decide) | exact congrFun (f6 29 (by decide)) 22
  try have u6_12 : σ6 29 27 = σ2 29 27 := by first | exact o6 27 (by decide) | exact congrFun (f6 29 (by decide)) 27
  try have u6_13 : σ6 29 30 = σ2 29 30 := by first | exact o6 30 (by decide) | exact congrFun (f6 29 (by decide)) 30
  try have u6_14 : σ6 29 31 = σ2 29 31 := by first | exact o6 31 (by decide) | exact congrFun (f6 29 (by decide)) 31
  try have u6_15 : σ6 29 36 = σ2 29 36 := by first | exact o6 36 (by decide) | exact congrFun (f6 29 (by decide)) 36
  try have u6_16 : σ6 29 37 = σ2 29 37 := by first | exact o6 37 (by decide) | exact congrFun (f6 29 (by decide)) 37
  try have u6_17 : σ6 29 38 = σ2 29 38 := by first | exact o6 38 (by decide) | exact congrFun (f6 29 (by decide)) 38
  try have u6_18 : σ6 29 39 = σ2 29 39 := by first | exact o6 39 (by decide) | exact congrFun (f6 29 (by decide)) 39
  try have u6_19 : σ6 29 40 = σ2 29 40 := by first | exact o6 40 (by decide) | exact congrFun (f6 29 (by decide)) 40
  try have u6_20 : σ6 29 43 = σ2 29 43 := by first | exact o6 43 (by decide) | exact congrFun (f6 29 (by decide)) 43
  refine pe_aload_n d_M_draw_9 rfl ?_
  refine pe_geti f_M_71 d_M_draw_10 rfl rfl 41 rfl ?_
  refine pe_if_eq (t := 82) d_M_draw_13 (by first | exact hB _ _ | exact hB0 _ _ | exact hBt _ _ | exact ⟨by omega, by omega⟩) (fun h13 => ?_) (fun h13 => ?_)
  · skip
    refine pe_iconst d_M_draw_82 ?_
    refine pe_istore_n d_M_draw_83 ?_
    first
    | exact J84 (_, _) ⟨hB, (fun b hb => (f6 b (by simp at hb ⊢; try omega)).trans ((f2 b (by simp at hb ⊢; try omega)).trans (rfl))), (fun j hj => (o6 j (by simp at hj ⊢; try omega)).trans ((o2 j (by simp at hj ⊢; try omega)).trans (rfl))), pe_SW_to hS (by first | rfl | omega | (dsimp only; omega)) (by first | rfl | omega | (dsimp only; omega)) ((f6 42 (by decide)).trans ((f2 42 (by decide)).trans (rfl))), pe_DW_to hD (by first | rfl | omega | (dsimp only; omega)) (by first | rfl | omega | (dsimp only; omega)) ((f6 40 (by decide)).trans ((f2 40 (by decide)).trans (rfl))), by (try dsimp only); omega⟩
    | exact pe_drop 1 (J84 (_, _) ⟨hB, (fun b hb => (f6 b (by simp at hb ⊢; try omega)).trans ((f2 b (by simp at hb ⊢; try omega)).trans (rfl))), (fun j hj => (o6 j (by simp at hj ⊢; try omega)).trans ((o2 j (by simp at hj ⊢; try omega)).trans (rfl))), pe_SW_to hS (by first | rfl | omega | (dsimp only; omega)) (by first | rfl | omega | (dsimp only; omega)) ((f6 42 (by decide)).trans ((f2 42 (by decide)).trans (rfl))), pe_DW_to x6.1 (by first | rfl | omega | (dsimp only; omega)) (by first | rfl | omega | (dsimp only; omega)) (rfl), by (try dsimp only); omega⟩)
    | exact J84 (_, _) ⟨hB, (fun b hb => (f6 b (by simp at hb ⊢; try omega)).trans ((f2 b (by simp at hb ⊢; try omega)).trans (rfl))), (fun j hj => (o6 j (by simp at hj ⊢; try omega)).trans ((o2 j (by simp at hj ⊢; try omega)).trans (rfl))), pe_SW_to hS (by first | rfl | omega | (dsimp only; omega)) (by first | rfl | omega | (dsimp only; omega)) ((f6 42 (by decide)).trans ((f2 42 (by decide)).trans (rfl))), pe_DW_to x6.1 (by first | rfl | omega | (dsimp only; omega)) (by first | rfl | omega | (dsimp only; omega)) (rfl), by (try dsimp only); omega⟩
  · skip
    refine pe_aload_n d_M_draw_16 rfl ?_
    refine pe_iconst d_M_draw_17 ?_
    refine pe_v1v d_M_draw_18 c_M_288 i_M_setLook s_M_setLook rfl rfl (t_M_setLook hB (by omega) (by first | exact hB _ _ | exact hB0 _ _ | exact hBt _ _ | exact ⟨by omega, by omega⟩)) (fun σ18 hz18 => ?_)
    obtain ⟨hB, f18, o18, x18⟩ := hz18
    try have u18_0 : σ18 29 1 = σ6 29 1 := by first | exact o18 1 (by decide) | exact congrFun (f18 29 (by decide)) 1
    try have u18_1 : σ18 29 2 = σ6 29 2 := by first | exact o18 2 (by decide) | exact congrFun (f18 29 (by decide)) 2
    try have u18_2 : σ18 29 3 = σ6 29 3 := by first | exact o18 3 (by decide) | exact congrFun (f18 29 (by decide)) 3
    try have u18_3 : σ18 29 5 = σ6 29 5 := by first | exact o18 5 (by decide) | exact congrFun (f18 29 (by decide)) 5
    try have u18_4 : σ18 29 7 = σ6 29 7 := by first | exact o18 7 (by decide) | exact congrFun (f18 29 (by decide)) 7
    try have u18_5 : σ18 29 14 = σ6 29 14 := by first | exact o18 14 (by decide) | exact congrFun (f18 29 (by decide)) 14
    try have u18_6 : σ18 29 15 = σ6 29 15 := by first | exact o18 15 (by decide) | exact congrFun (f18 29 (by decide)) 15
    try have u18_7 : σ18 29 16 = σ6 29 16 := by first | exact o18 16 (by decide) | exact congrFun (f18 29 (by decide)) 16
    try have u18_8 : σ18 29 17 = σ6 29 17 := by first | exact o18 17 (by decide) | exact congrFun (f18 29 (by decide)) 17
    try have u18_9 : σ18 29 18 = σ6 29 18 := by first | exact o18 18 (by decide) | exact congrFun (f18 29 (by decide)) 18
    try have u18_10 : σ18 29 21 = σ6 29 21 := by first | exact o18 21 (by decide) | exact congrFun (f18 29 (by decide)) 21
    try have u18_11 : σ18 29 22 = σ6 29 22 := by first | exact o18 22 (by decide) | exact congrFun (f18 29 (by decide)) 22
    try have u18_12 : σ18 29 27 = σ6 29 27 := by first | exact o18 27 (by decide) | exact congrFun (f18 29 (by decide)) 27
    try have u18_13 : σ18 29 30 = σ6 29 30 := by first | exact o18 30 (by decide) | exact congrFun (f18 29 (by decide)) 30
    try have u18_14 : σ18 29 31 = σ6 29 31 := by first | exact o18 31 (by decide) | exact congrFun (f18 29 (by decide)) 31
    try have u18_15 : σ18 29 36 = σ6 29 36 := by first | exact o18 36 (by decide) | exact congrFun (f18 29 (by decide)) 36
    try have u18_16 : σ18 29 37 = σ6 29 37 := by first | exact o18 37 (by decide) | exact congrFun (f18 29 (by decide)) 37
    try have u18_17 : σ18 29 38 = σ6 29 38 := by first | exact o18 38 (by decide) | exact congrFun (f18 29 (by decide)) 38
    try have u18_18 : σ18 29 39 = σ6 29 39 := by first | exact o18 39 (by decide) | exact congrFun (f18 29 (by decide)) 39
    try have u18_19 : σ18 29 40 = σ6 29 40 := by first | exact o18 40 (by decide) | exact congrFun (f18 29 (by decide)) 40
    try have u18_20 : σ18 29 43 = σ6 29 43 := by first | exact o18 43 (by decide) | exact congrFun (f18 29 (by decide)) 43
    refine pe_aload_n d_M_draw_21 rfl ?_
    refine pe_v0v d_M_draw_22 c_M_275 i_M_putBegin s_M_putBegin rfl rfl (t_M_putBegin hB (by omega)) (fun σ22 hz22 => ?_)
    obtain ⟨hB, f22, o22, x22⟩ := hz22
    try have u22_0 : σ22 29 1 = σ18 29 1 := by first | exact o22 1 (by decide) | exact congrFun (f22 29 (by decide)) 1
    try have u22_1 : σ22 29 2 = σ18 29 2 := by first | exact o22 2 (by decide) | exact congrFun (f22 29 (by decide)) 2
    try have u22_2 : σ22 29 3 = σ18 29 3 := by first | exact o22 3 (by decide) | exact congrFun (f22 29 (by decide)) 3
    try have u22_3 : σ22 29 5 = σ18 29 5 := by first | exact o22 5 (by decide) | exact congrFun (f22 29 (by decide)) 5
    try have u22_4 : σ22 29 7 = σ18 29 7 := by first | exact o22 7 (by decide) | exact congrFun (f22 29 (by decide)) 7
    try have u22_5 : σ22 29 14 = σ18 29 14 := by first | exact o22 14 (by decide) | exact congrFun (f22 29 (by decide)) 14
    try have u22_6 : σ22 29 15 = σ18 29 15 := by first | exact o22 15 (by decide) | exact congrFun (f22 29 (by decide)) 15
    try have u22_7 : σ22 29 16 = σ18 29 16 := by first | exact o22 16 (by decide) | exact congrFun (f22 29 (by decide)) 16
    try have u22_8 : σ22 29 17 = σ18 29 17 := by first | exact o22 17 (by decide) | exact congrFun (f22 29 (by decide)) 17
    try have u22_9 : σ22 29 18 = σ18 29 18 := by first | exact o22 18 (by decide) | exact congrFun (f22 29 (by decide)) 18
    try have u22_10 : σ22 29 21 = σ18 29 21 := by first | exact o22 21 (by decide) | exact congrFun (f22 29 (by decide)) 21
    try have u22_11 : σ22 29 22 = σ18 29 22 := by first | exact o22 22 (by decide) | exact congrFun (f22 29 (by decide)) 22
    try have u22_12 : σ22 29 27 = σ18 29 27 := by first | exact o22 27 (by decide) | exact congrFun (f22 29 (by decide)) 27
    try have u22_13 : σ22 29 30 = σ18 29 30 := by first | exact o22 30 (by decide) | exact congrFun (f22 29 (by decide)) 30
    try have u22_14 : σ22 29 31 = σ18 29 31 := by first | exact o22 31 (by decide) | exact congrFun (f22 29 (by decide)) 31
    try have u22_15 : σ22 29 36 = σ18 29 36 := by first | exact o22 36 (by decide) | exact congrFun (f22 29 (by decide)) 36
    try have u22_16 : σ22 29 37 = σ18 29 37 := by first | exact o22 37 (by decide) | exact congrFun (f22 29 (by decide)) 37
    try have u22_17 : σ22 29 38 = σ18 29 38 := by first | exact o22 38 (by decide) | exact congrFun (f22 29 (by decide)) 38
    try have u22_18 : σ22 29 39 = σ18 29 39 := by first | exact o22 39 (by decide) | exact congrFun (f22 29 (by decide)) 39
    try have u22_19 : σ22 29 40 = σ18 29 40 := by first | exact o22 40 (by decide) | exact congrFun (f22 29 (by decide)) 40
    try have u22_20 : σ22 29 43 = σ18 29 43 := by first | exact o22 43 (by decide) | exact congrFun (f22 29 (by decide)) 43
    refine pe_aload_n d_M_draw_25 rfl ?_
    refine pe_bipush d_M_draw_26 ?_
    refine pe_v1v d_M_draw_28 c_M_253 i_M_put s_M_put rfl rfl (t_M_put hB (by omega) (by first | exact hB _ _ | exact hB0 _ _ | exact hBt _ _ | exact ⟨by omega, by omega⟩)) (fun σ28 hz28 => ?_)
    obtain ⟨hB, f28, o28, x28⟩ := hz28
    try have u28_0 : σ28 29 1 = σ22 29 1 := by first | exact o28 1 (by decide) | exact congrFun (f28 29 (by decide)) 1
    try have u28_1 : σ28 29 2 = σ22 29 2 := by first | exact o28 2 (by decide) | exact congrFun (f28 29 (by decide)) 2
    try have u28_2 : σ28 29 3 = σ22 29 3 := by first | exact o28 3 (by decide) | exact congrFun (f28 29 (by decide)) 3
    try have u28_3 : σ28 29 5 = σ22 29 5 := by first | exact o28 5 (by decide) | exact congrFun (f28 29 (by decide)) 5
    try have u28_4 : σ28 29 7 = σ22 29 7 := by first | exact o28 7 (by decide) | exact congrFun (f28 29 (by decide)) 7
    try have u28_5 : σ28 29 14 = σ22 29 14 := by first | exact o28 14 (by decide) | exact congrFun (f28 29 (by decide)) 14
    try have u28_6 : σ28 29 15 = σ22 29 15 := by first | exact o28 15 (by decide) | exact congrFun (f28 29 (by decide)) 15
    try have u28_7 : σ28 29 16 = σ22 29 16 := by first | exact o28 16 (by decide) | exact congrFun (f28 29 (by decide)) 16
    try have u28_8 : σ28 29 17 = σ22 29 17 := by first | exact o28 17 (by decide) | exact congrFun (f28 29 (by decide)) 17
    try have u28_9 : σ28 29 18 = σ22 29 18 := by first | exact o28 18 (by decide) | exact congrFun (f28 29 (by decide)) 18
    try have u28_10 : σ28 29 21 = σ22 29 21 := by first | exact o28 21 (by decide) | exact congrFun (f28 29 (by decide)) 21
    try have u28_11 : σ28 29 22 = σ22 29 22 := by first | exact o28 22 (by decide) | exact congrFun (f28 29 (by decide)) 22
    try have u28_12 : σ28 29 27 = σ22 29 27 := by first | exact o28 27 (by decide) | exact congrFun (f28 29 (by decide)) 27
    try have u28_13 : σ28 29 30 = σ22 29 30 := by first | exact o28 30 (by decide) | exact congrFun (f28 29 (by decide)) 30
    try have u28_14 : σ28 29 31 = σ22 29 31 := by first | exact o28 31 (by decide) | exact congrFun (f28 29 (by decide)) 31
    try have u28_15 : σ28 29 36 = σ22 29 36 := by first | exact o28 36 (by decide) | exact congrFun (f28 29 (by decide)) 36
    try have u28_16 : σ28 29 37 = σ22 29 37 := by first | exact o28 37 (by decide) | exact congrFun (f28 29 (by decide)) 37
    try have u28_17 : σ28 29 38 = σ22 29 38 := by first | exact o28 38 (by decide) | exact congrFun (f28 29 (by decide)) 38
    try have u28_18 : σ28 29 39 = σ22 29 39 := by first | exact o28 39 (by decide) | exact congrFun (f28 29 (by decide)) 39
    try have u28_19 : σ28 29 40 = σ22 29 40 := by first | exact o28 40 (by decide) | exact congrFun (f28 29 (by decide)) 40
    try have u28_20 : σ28 29 43 = σ22 29 43 := by first | exact o28 43 (by decide) | exact congrFun (f28 29 (by decide)) 43
    refine pe_aload_n d_M_draw_31 rfl ?_
    refine pe_bipush d_M_draw_32 ?_
    refine pe_v1v d_M_draw_34 c_M_253 i_M_put s_M_put rfl rfl (t_M_put hB (by omega) (by first | exact hB _ _ | exact hB0 _ _ | exact hBt _ _ | exact ⟨by omega, by omega⟩)) (fun σ34 hz34 => ?_)
    obtain ⟨hB, f34, o34, x34⟩ := hz34
    try have u34_0 : σ34 29 1 = σ28 29 1 := by first | exact o34 1 (by decide) | exact congrFun (f34 29 (by decide)) 1
    try have u34_1 : σ34 29 2 = σ28 29 2 := by first | exact o34 2 (by decide) | exact congrFun (f34 29 (by decide)) 2
    try have u34_2 : σ34 29 3 = σ28 29 3 := by first | exact o34 3 (by decide) | exact congrFun (f34 29 (by decide)) 3
    try have u34_3 : σ34 29 5 = σ28 29 5 := by first | exact o34 5 (by decide) | exact congrFun (f34 29 (by decide)) 5
    try have u34_4 : σ34 29 7 = σ28 29 7 := by first | exact o34 7 (by decide) | exact congrFun (f34 29 (by decide)) 7
    try have u34_5 : σ34 29 14 = σ28 29 14 := by first | exact o34 14 (by decide) | exact congrFun (f34 29 (by decide)) 14
    try have u34_6 : σ34 29 15 = σ28 29 15 := by first | exact o34 15 (by decide) | exact congrFun (f34 29 (by decide)) 15
    try have u34_7 : σ34 29 16 = σ28 29 16 := by first | exact o34 16 (by decide) | exact congrFun (f34 29 (by decide)) 16
    try have u34_8 : σ34 29 17 = σ28 29 17 := by first | exact o34 17 (by decide) | exact congrFun (f34 29 (by decide)) 17
    try have u34_9 : σ34 29 18 = σ28 29 18 := by first | exact o34 18 (by decide) | exact congrFun (f34 29 (by decide)) 18
    try have u34_10 : σ34 29 21 = σ28 29 21 := by first | exact o34 21 (by decide) | exact congrFun (f34 29 (by decide)) 21
    try have u34_11 : σ34 29 22 = σ28 29 22 := by first | exact o34 22 (by decide) | exact congrFun (f34 29 (by decide)) 22
    try have u34_12 : σ34 29 27 = σ28 29 27 := by first | exact o34 27 (by decide) | exact congrFun (f34 29 (by decide)) 27
    try have u34_13 : σ34 29 30 = σ28 29 30 := by first | exact o34 30 (by decide) | exact congrFun (f34 29 (by decide)) 30
    try have u34_14 : σ34 29 31 = σ28 29 31 := by first | exact o34 31 (by decide) | exact congrFun (f34 29 (by decide)) 31
    try have u34_15 : σ34 29 36 = σ28 29 36 := by first | exact o34 36 (by decide) | exact congrFun (f34 29 (by decide)) 36
    try have u34_16 : σ34 29 37 = σ28 29 37 := by first | exact o34 37 (by decide) | exact congrFun (f34 29 (by decide)) 37
    try have u34_17 : σ34 29 38 = σ28 29 38 := by first | exact o34 38 (by decide) | exact congrFun (f34 29 (by decide)) 38
    try have u34_18 : σ34 29 39 = σ28 29 39 := by first | exact o34 39 (by decide) | exact congrFun (f34 29 (by decide)) 39
    try have u34_19 : σ34 29 40 = σ28 29 40 := by first | exact o34 40 (by decide) | exact congrFun (f34 29 (by decide)) 40
    try have u34_20 : σ34 29 43 = σ28 29 43 := by first | exact o34 43 (by decide) | exact congrFun (f34 29 (by decide)) 43
    refine pe_iconst d_M_draw_37 ?_
    refine pe_istore_n d_M_draw_38 ?_
    exact J39 (_, _) ⟨hB, (fun b hb => (f34 b (by simp at hb ⊢; try omega)).trans ((f28 b (by simp at hb ⊢; try omega)).trans ((f22 b (by simp at hb ⊢; try omega)).trans ((f18 b (by simp at hb ⊢; try omega)).trans ((f6 b (by simp at hb ⊢; try omega)).trans ((f2 b (by simp at hb ⊢; try omega)).trans (rfl))))))), (fun j hj => (o34 j (by simp at hj ⊢; try omega)).trans ((o28 j (by simp at hj ⊢; try omega)).trans ((o22 j (by simp at hj ⊢; try omega)).trans ((o18 j (by simp at hj ⊢; try omega)).trans ((o6 j (by simp at hj ⊢; try omega)).trans ((o2 j (by simp at hj ⊢; try omega)).trans (rfl))))))), pe_SW_to hS (by first | rfl | omega | (dsimp only; omega)) (by first | rfl | omega | (dsimp only; omega)) ((f34 42 (by decide)).trans ((f28 42 (by decide)).trans ((f22 42 (by decide)).trans ((f18 42 (by decide)).trans ((f6 42 (by decide)).trans ((f2 42 (by decide)).trans (rfl))))))), pe_DW_to x6.1 (by first | rfl | omega | (dsimp only; omega)) (by first | rfl | omega | (dsimp only; omega)) ((f34 40 (by decide)).trans ((f28 40 (by decide)).trans ((f22 40 (by decide)).trans ((f18 40 (by decide)).trans (rfl))))), by (try dsimp only); omega⟩
