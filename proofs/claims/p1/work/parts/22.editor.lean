theorem pe_HI_to {h p c u w t h' p' c' u' w' t' : Int → Int} (q : pe_HI h p c u w t) (e1 : h' = h) (e2 : p' = p) (e3 : c' = c) (e4 : u' = u) (e5 : w' = w) (e6 : t' 1 = t 1) : pe_HI h' p' c' u' w' t' := by
  subst e1; subst e2; subst e3; subst e4; subst e5
  exact ⟨q.1, q.2.1, by rw [e6]; exact q.2.2⟩
theorem pe_LI_to {r c w r' c' w' : Int → Int} (q : pe_LI r c w) (e1 : r' = r) (e2 : c' = c) (e3 : w' = w) : pe_LI r' c' w' := by
  subst e1; subst e2; subst e3; exact q
/-- the editor between two keys -/
def pe_EI (σ : pe_H) : Prop := pe_HI (σ 5) (σ 6) (σ 7) (σ 8) (σ 9) (σ 3) ∧ pe_LI (σ 12) (σ 13) (σ 14) ∧ (0 ≤ σ 2 7 ∧ σ 2 7 ≤ σ 3 1) ∧ (-1 ≤ σ 2 8 ∧ σ 2 8 ≤ σ 3 1) ∧ (0 ≤ σ 2 5 ∧ σ 2 5 ≤ 200) ∧ (1 ≤ σ 2 6 ∧ σ 2 6 ≤ 24)
theorem t_E_isCharacter {σ : pe_H} {k : Int} (hk : pe_R k) : pe_M m_E_isCharacter [pe_i k] σ (pe_qp σ (fun z => z = 0 ∨ z = 1)) := by
  refine pe_in0 (lv := [some (pe_i k)]) ?_
  refine pe_iload_n d_E_isCharacter_0 rfl ?_
  refine pe_bipush d_E_isCharacter_1 ?_
  refine pe_icmp_lt (t := 22) d_E_isCharacter_3 (by first | exact hB _ _ | exact hB0 _ _ | exact hBt _ _ | exact ⟨by omega, by omega⟩) (by first | exact hB _ _ | exact hB0 _ _ | exact hBt _ _ | exact ⟨by omega, by omega⟩) (fun h3 => ?_) (fun h3 => ?_)
  · skip
    refine pe_iconst d_E_isCharacter_22 ?_
    refine pe_rz d_E_isCharacter_23 (by first | exact Or.inl rfl | exact Or.inr rfl | omega) ?_
    exact ⟨rfl, by (try dsimp only); omega⟩
  · skip
    refine pe_iload_n d_E_isCharacter_6 rfl ?_
    refine pe_ldc q_E_53 d_E_isCharacter_7 (z := 65536) rfl ?_
    refine pe_icmp_ge (t := 22) d_E_isCharacter_9 (by first | exact hB _ _ | exact hB0 _ _ | exact hBt _ _ | exact ⟨by omega, by omega⟩) (by first | exact hB _ _ | exact hB0 _ _ | exact hBt _ _ | exact ⟨by omega, by omega⟩) (fun h9 => ?_) (fun h9 => ?_)
    · skip
      refine pe_iconst d_E_isCharacter_22 ?_
      refine pe_rz d_E_isCharacter_23 (by first | exact Or.inl rfl | exact Or.inr rfl | omega) ?_
      exact ⟨rfl, by (try dsimp only); omega⟩
    · skip
      refine pe_iload_n d_E_isCharacter_12 rfl ?_
      refine pe_bipush d_E_isCharacter_13 ?_
      refine pe_icmp_eq (t := 22) d_E_isCharacter_15 (by first | exact hB _ _ | exact hB0 _ _ | exact hBt _ _ | exact ⟨by omega, by omega⟩) (by first | exact hB _ _ | exact hB0 _ _ | exact hBt _ _ | exact ⟨by omega, by omega⟩) (fun h15 => ?_) (fun h15 => ?_)
      · skip
        refine pe_iconst d_E_isCharacter_22 ?_
        refine pe_rz d_E_isCharacter_23 (by first | exact Or.inl rfl | exact Or.inr rfl | omega) ?_
        exact ⟨rfl, by (try dsimp only); omega⟩
      · skip
        refine pe_iconst d_E_isCharacter_18 ?_
        refine pe_goto (t := 23) d_E_isCharacter_19 ?_
        refine pe_rz d_E_isCharacter_23 (by first | exact Or.inl rfl | exact Or.inr rfl | omega) ?_
        exact ⟨rfl, by (try dsimp only); omega⟩
theorem t_E_worksWhilePasting {σ : pe_H} {k : Int} (hk : pe_R k) : pe_M m_E_worksWhilePasting [pe_i k] σ (pe_qp σ (fun z => z = 0 ∨ z = 1)) := by
  refine pe_in0 (lv := [some (pe_i k)]) ?_
  refine pe_iload_n d_E_worksWhilePasting_0 rfl ?_
  refine pe_s1p d_E_worksWhilePasting_1 c_E_69 z_E_isCharacter (t_E_isCharacter (by first | exact hB _ _ | exact hB0 _ _ | exact hBt _ _ | exact ⟨by omega, by omega⟩)) (fun z1 hz1 => ?_)
  refine pe_if_ne (t := 31) d_E_worksWhilePasting_4 (by first | exact hB _ _ | exact hB0 _ _ | exact hBt _ _ | exact ⟨by omega, by omega⟩) (fun h4 => ?_) (fun h4 => ?_)
  · skip
    refine pe_iconst d_E_worksWhilePasting_31 ?_
    refine pe_goto (t := 36) d_E_worksWhilePasting_32 ?_
    refine pe_rz d_E_worksWhilePasting_36 (by first | exact Or.inl rfl | exact Or.inr rfl | omega) ?_
    exact ⟨rfl, by (try dsimp only); omega⟩
  · skip
    refine pe_iload_n d_E_worksWhilePasting_7 rfl ?_
    refine pe_bipush d_E_worksWhilePasting_8 ?_
    refine pe_icmp_eq (t := 31) d_E_worksWhilePasting_10 (by first | exact hB _ _ | exact hB0 _ _ | exact hBt _ _ | exact ⟨by omega, by omega⟩) (by first | exact hB _ _ | exact hB0 _ _ | exact hBt _ _ | exact ⟨by omega, by omega⟩) (fun h10 => ?_) (fun h10 => ?_)
    · skip
      refine pe_iconst d_E_worksWhilePasting_31 ?_
      refine pe_goto (t := 36) d_E_worksWhilePasting_32 ?_
      refine pe_rz d_E_worksWhilePasting_36 (by first | exact Or.inl rfl | exact Or.inr rfl | omega) ?_
      exact ⟨rfl, by (try dsimp only); omega⟩
    · skip
      refine pe_iload_n d_E_worksWhilePasting_13 rfl ?_
      refine pe_bipush d_E_worksWhilePasting_14 ?_
      refine pe_icmp_eq (t := 31) d_E_worksWhilePasting_16 (by first | exact hB _ _ | exact hB0 _ _ | exact hBt _ _ | exact ⟨by omega, by omega⟩) (by first | exact hB _ _ | exact hB0 _ _ | exact hBt _ _ | exact ⟨by omega, by omega⟩) (fun h16 => ?_) (fun h16 => ?_)
      · skip
        refine pe_iconst d_E_worksWhilePasting_31 ?_
        refine pe_goto (t := 36) d_E_worksWhilePasting_32 ?_
        refine pe_rz d_E_worksWhilePasting_36 (by first | exact Or.inl rfl | exact Or.inr rfl | omega) ?_
        exact ⟨rfl, by (try dsimp only); omega⟩
      · skip
        refine pe_iload_n d_E_worksWhilePasting_19 rfl ?_
        refine pe_bipush d_E_worksWhilePasting_20 ?_
        refine pe_icmp_eq (t := 31) d_E_worksWhilePasting_22 (by first | exact hB _ _ | exact hB0 _ _ | exact hBt _ _ | exact ⟨by omega, by omega⟩) (by first | exact hB _ _ | exact hB0 _ _ | exact hBt _ _ | exact ⟨by omega, by omega⟩) (fun h22 => ?_) (fun h22 => ?_)
        · skip
          refine pe_iconst d_E_worksWhilePasting_31 ?_
          refine pe_goto (t := 36) d_E_worksWhilePasting_32 ?_
          refine pe_rz d_E_worksWhilePasting_36 (by first | exact Or.inl rfl | exact Or.inr rfl | omega) ?_
          exact ⟨rfl, by (try dsimp only); omega⟩
        · skip
          refine pe_iload_n d_E_worksWhilePasting_25 rfl ?_
          refine pe_ldc q_E_85 d_E_worksWhilePasting_26 (z := 65544) rfl ?_
          refine pe_icmp_ne (t := 35) d_E_worksWhilePasting_28 (by first | exact hB _ _ | exact hB0 _ _ | exact hBt _ _ | exact ⟨by omega, by omega⟩) (by first | exact hB _ _ | exact hB0 _ _ | exact hBt _ _ | exact ⟨by omega, by omega⟩) (fun h28 => ?_) (fun h28 => ?_)
          · skip
            refine pe_iconst d_E_worksWhilePasting_35 ?_
            refine pe_rz d_E_worksWhilePasting_36 (by first | exact Or.inl rfl | exact Or.inr rfl | omega) ?_
            exact ⟨rfl, by (try dsimp only); omega⟩
          · skip
            refine pe_iconst d_E_worksWhilePasting_31 ?_
            refine pe_goto (t := 36) d_E_worksWhilePasting_32 ?_
            refine pe_rz d_E_worksWhilePasting_36 (by first | exact Or.inl rfl | exact Or.inr rfl | omega) ?_
            exact ⟨rfl, by (try dsimp only); omega⟩
theorem t_E_worksOtherwise {σ : pe_H} {k : Int} (hk : pe_R k) : pe_M m_E_worksOtherwise [pe_i k] σ (pe_qp σ (fun z => z = 0 ∨ z = 1)) := by
  refine pe_in0 (lv := [some (pe_i k)]) ?_
  refine pe_iload_n d_E_worksOtherwise_0 rfl ?_
  refine pe_tsw [(0, 128), (1, 130), (2, 130), (3, 130), (4, 130), (5, 130), (6, 130), (7, 130), (8, 128), (9, 128), (10, 128), (11, 130), (12, 128), (13, 128), (14, 130), (15, 130), (16, 130), (17, 130), (18, 130), (19, 130), (20, 130), (21, 130), (22, 130), (23, 128), (24, 130), (25, 128), (26, 128), (27, 128)] (dt := 130) d_E_worksOtherwise_1 (by first | exact hB _ _ | exact hB0 _ _ | exact hBt _ _ | exact ⟨by omega, by omega⟩) ?_
  refine ⟨fun h1 => ?_, fun h1_0 => ?_⟩
  · show pe_G _ _ _ _ _ _
    refine pe_iconst d_E_worksOtherwise_128 ?_
    refine pe_rz d_E_worksOtherwise_129 (by first | exact Or.inl rfl | exact Or.inr rfl | omega) ?_
    exact ⟨rfl, by (try dsimp only); omega⟩
  refine ⟨fun h1 => ?_, fun h1_1 => ?_⟩
  · show pe_G _ _ _ _ _ _
    refine pe_iload_n d_E_worksOtherwise_130 rfl ?_
    refine pe_bipush d_E_worksOtherwise_131 ?_
    refine pe_icmp_lt (t := 140) d_E_worksOtherwise_133 (by first | exact hB _ _ | exact hB0 _ _ | exact hBt _ _ | exact ⟨by omega, by omega⟩) (by first | exact hB _ _ | exact hB0 _ _ | exact hBt _ _ | exact ⟨by omega, by omega⟩) (fun h133 => ?_) (fun h133 => ?_)
    · skip
      refine pe_iconst d_E_worksOtherwise_140 ?_
      refine pe_rz d_E_worksOtherwise_141 (by first | exact Or.inl rfl | exact Or.inr rfl | omega) ?_
      exact ⟨rfl, by (try dsimp only); omega⟩
    · skip
      refine pe_iconst d_E_worksOtherwise_136 ?_
      refine pe_goto (t := 141) d_E_worksOtherwise_137 ?_
      refine pe_rz d_E_worksOtherwise_141 (by first | exact Or.inl rfl | exact Or.inr rfl | omega) ?_
      exact ⟨rfl, by (try dsimp only); omega⟩
  refine ⟨fun h1 => ?_, fun h1_2 => ?_⟩
  · show pe_G _ _ _ _ _ _
    refine pe_iload_n d_E_worksOtherwise_130 rfl ?_
    refine pe_bipush d_E_worksOtherwise_131 ?_
    refine pe_icmp_lt (t := 140) d_E_worksOtherwise_133 (by first | exact hB _ _ | exact hB0 _ _ | exact hBt _ _ | exact ⟨by omega, by omega⟩) (by first | exact hB _ _ | exact hB0 _ _ | exact hBt _ _ | exact ⟨by omega, by omega⟩) (fun h133 => ?_) (fun h133 => ?_)
    · skip
      refine pe_iconst d_E_worksOtherwise_140 ?_
      refine pe_rz d_E_worksOtherwise_141 (by first | exact Or.inl rfl | exact Or.inr rfl | omega) ?_
      exact ⟨rfl, by (try dsimp only); omega⟩
    · skip
      refine pe_iconst d_E_worksOtherwise_136 ?_
      refine pe_goto (t := 141) d_E_worksOtherwise_137 ?_
      refine pe_rz d_E_worksOtherwise_141 (by first | exact Or.inl rfl | exact Or.inr rfl | omega) ?_
      exact ⟨rfl, by (try dsimp only); omega⟩
  refine ⟨fun h1 => ?_, fun h1_3 => ?_⟩
  · show pe_G _ _ _ _ _ _
    refine pe_iload_n d_E_worksOtherwise_130 rfl ?_
    refine pe_bipush d_E_worksOtherwise_131 ?_
    refine pe_icmp_lt (t := 140) d_E_worksOtherwise_133 (by first | exact hB _ _ | exact hB0 _ _ | exact hBt _ _ | exact ⟨by omega, by omega⟩) (by first | exact hB _ _ | exact hB0 _ _ | exact hBt _ _ | exact ⟨by omega, by omega⟩) (fun h133 => ?_) (fun h133 => ?_)
    · skip
      refine pe_iconst d_E_worksOtherwise_140 ?_
      refine pe_rz d_E_worksOtherwise_141 (by first | exact Or.inl rfl | exact Or.inr rfl | omega) ?_
      exact ⟨rfl, by (try dsimp only); omega⟩
    · skip
      refine pe_iconst d_E_worksOtherwise_136 ?_
      refine pe_goto (t := 141) d_E_worksOtherwise_137 ?_
      refine pe_rz d_E_worksOtherwise_141 (by first | exact Or.inl rfl | exact Or.inr rfl | omega) ?_
      exact ⟨rfl, by (try dsimp only); omega⟩
  refine ⟨fun h1 => ?_, fun h1_4 => ?_⟩
  · show pe_G _ _ _ _ _ _
    refine pe_iload_n d_E_worksOtherwise_130 rfl ?_
    refine pe_bipush d_E_worksOtherwise_131 ?_
    refine pe_icmp_lt (t := 140) d_E_worksOtherwise_133 (by first | exact hB _ _ | exact hB0 _ _ | exact hBt _ _ | exact ⟨by omega, by omega⟩) (by first | exact hB _ _ | exact hB0 _ _ | exact hBt _ _ | exact ⟨by omega, by omega⟩) (fun h133 => ?_) (fun h133 => ?_)
    · skip
      refine pe_iconst d_E_worksOtherwise_140 ?_
      refine pe_rz d_E_worksOtherwise_141 (by first | exact Or.inl rfl | exact Or.inr rfl | omega) ?_
      exact ⟨rfl, by (try dsimp only); omega⟩
    · skip
      refine pe_iconst d_E_worksOtherwise_136 ?_
      refine pe_goto (t := 141) d_E_worksOtherwise_137 ?_
      refine pe_rz d_E_worksOtherwise_141 (by first | exact Or.inl rfl | exact Or.inr rfl | omega) ?_
      exact ⟨rfl, by (try dsimp only); omega⟩
  refine ⟨fun h1 => ?_, fun h1_5 => ?_⟩
  · show pe_G _ _ _ _ _ _
    refine pe_iload_n d_E_worksOtherwise_130 rfl ?_
    refine pe_bipush d_E_worksOtherwise_131 ?_
    refine pe_icmp_lt (t := 140) d_E_worksOtherwise_133 (by first | exact hB _ _ | exact hB0 _ _ | exact hBt _ _ | exact ⟨by omega, by omega⟩) (by first | exact hB _ _ | exact hB0 _ _ | exact hBt _ _ | exact ⟨by omega, by omega⟩) (fun h133 => ?_) (fun h133 => ?_)
    · skip
      refine pe_iconst d_E_worksOtherwise_140 ?_
      refine pe_rz d_E_worksOtherwise_141 (by first | exact Or.inl rfl | exact Or.inr rfl | omega) ?_
      exact ⟨rfl, by (try dsimp only); omega⟩
    · skip
      refine pe_iconst d_E_worksOtherwise_136 ?_
      refine pe_goto (t := 141) d_E_worksOtherwise_137 ?_
      refine pe_rz d_E_worksOtherwise_141 (by first | exact Or.inl rfl | exact Or.inr rfl | omega) ?_
      exact ⟨rfl, by (try dsimp only); omega⟩
  refine ⟨fun h1 => ?_, fun h1_6 => ?_⟩
  · show pe_G _ _ _ _ _ _
    refine pe_iload_n d_E_worksOtherwise_130 rfl ?_
    refine pe_bipush d_E_worksOtherwise_131 ?_
    refine pe_icmp_lt (t := 140) d_E_worksOtherwise_133 (by first | exact hB _ _ | exact hB0 _ _ | exact hBt _ _ | exact ⟨by omega, by omega⟩) (by first | exact hB _ _ | exact hB0 _ _ | exact hBt _ _ | exact ⟨by omega, by omega⟩) (fun h133 => ?_) (fun h133 => ?_)
    · skip
      refine pe_iconst d_E_worksOtherwise_140 ?_
      refine pe_rz d_E_worksOtherwise_141 (by first | exact Or.inl rfl | exact Or.inr rfl | omega) ?_
      exact ⟨rfl, by (try dsimp only); omega⟩
    · skip
      refine pe_iconst d_E_worksOtherwise_136 ?_
      refine pe_goto (t := 141) d_E_worksOtherwise_137 ?_
      refine pe_rz d_E_worksOtherwise_141 (by first | exact Or.inl rfl | exact Or.inr rfl | omega) ?_
      exact ⟨rfl, by (try dsimp only); omega⟩
  refine ⟨fun h1 => ?_, fun h1_7 => ?_⟩
  · show pe_G _ _ _ _ _ _
    refine pe_iload_n d_E_worksOtherwise_130 rfl ?_
    refine pe_bipush d_E_worksOtherwise_131 ?_
    refine pe_icmp_lt (t := 140) d_E_worksOtherwise_133 (by first | exact hB _ _ | exact hB0 _ _ | exact hBt _ _ | exact ⟨by omega, by omega⟩) (by first | exact hB _ _ | exact hB0 _ _ | exact hBt _ _ | exact ⟨by omega, by omega⟩) (fun h133 => ?_) (fun h133 => ?_)
    · skip
      refine pe_iconst d_E_worksOtherwise_140 ?_
      refine pe_rz d_E_worksOtherwise_141 (by first | exact Or.inl rfl | exact Or.inr rfl | omega) ?_
      exact ⟨rfl, by (try dsimp only); omega⟩
    · skip
      refine pe_iconst d_E_worksOtherwise_136 ?_
      refine pe_goto (t := 141) d_E_worksOtherwise_137 ?_
      refine pe_rz d_E_worksOtherwise_141 (by first | exact Or.inl rfl | exact Or.inr rfl | omega) ?_
      exact ⟨rfl, by (try dsimp only); omega⟩
  refine ⟨fun h1 => ?_, fun h1_8 => ?_⟩
  · show pe_G _ _ _ _ _ _
    refine pe_iconst d_E_worksOtherwise_128 ?_
    refine pe_rz d_E_worksOtherwise_129 (by first | exact Or.inl rfl | exact Or.inr rfl | omega) ?_
    exact ⟨rfl, by (try dsimp only); omega⟩
  refine ⟨fun h1 => ?_, fun h1_9 => ?_⟩
  · show pe_G _ _ _ _ _ _
    refine pe_iconst d_E_worksOtherwise_128 ?_
    refine pe_rz d_E_worksOtherwise_129 (by first | exact Or.inl rfl | exact Or.inr rfl | omega) ?_
    exact ⟨rfl, by (try dsimp only); omega⟩
  refine ⟨fun h1 => ?_, fun h1_10 => ?_⟩
  · show pe_G _ _ _ _ _ _
    refine pe_iconst d_E_worksOtherwise_128 ?_
    refine pe_rz d_E_worksOtherwise_129 (by first | exact Or.inl rfl | exact Or.inr rfl | omega) ?_
    exact ⟨rfl, by (try dsimp only); omega⟩
  refine ⟨fun h1 => ?_, fun h1_11 => ?_⟩
  · show pe_G _ _ _ _ _ _
    refine pe_iload_n d_E_worksOtherwise_130 rfl ?_
    refine pe_bipush d_E_worksOtherwise_131 ?_
    refine pe_icmp_lt (t := 140) d_E_worksOtherwise_133 (by first | exact hB _ _ | exact hB0 _ _ | exact hBt _ _ | exact ⟨by omega, by omega⟩) (by first | exact hB _ _ | exact hB0 _ _ | exact hBt _ _ | exact ⟨by omega, by omega⟩) (fun h133 => ?_) (fun h133 => ?_)
    · skip
      refine pe_iconst d_E_worksOtherwise_140 ?_
      refine pe_rz d_E_worksOtherwise_141 (by first | exact Or.inl rfl | exact Or.inr rfl | omega) ?_
      exact ⟨rfl, by (try dsimp only); omega⟩
    · skip
      refine pe_iconst d_E_worksOtherwise_136 ?_
      refine pe_goto (t := 141) d_E_worksOtherwise_137 ?_
      refine pe_rz d_E_worksOtherwise_141 (by first | exact Or.inl rfl | exact Or.inr rfl | omega) ?_
      exact ⟨rfl, by (try dsimp only); omega⟩
  refine ⟨fun h1 => ?_, fun h1_12 => ?_⟩
  · show pe_G _ _ _ _ _ _
    refine pe_iconst d_E_worksOtherwise_128 ?_
    refine pe_rz d_E_worksOtherwise_129 (by first | exact Or.inl rfl | exact Or.inr rfl | omega) ?_
    exact ⟨rfl, by (try dsimp only); omega⟩
  refine ⟨fun h1 => ?_, fun h1_13 => ?_⟩
  · show pe_G _ _ _ _ _ _
    refine pe_iconst d_E_worksOtherwise_128 ?_
    refine pe_rz d_E_worksOtherwise_129 (by first | exact Or.inl rfl | exact Or.inr rfl | omega) ?_
    exact ⟨rfl, by (try dsimp only); omega⟩
  refine ⟨fun h1 => ?_, fun h1_14 => ?_⟩
  · show pe_G _ _ _ _ _ _
    refine pe_iload_n d_E_worksOtherwise_130 rfl ?_
    refine pe_bipush d_E_worksOtherwise_131 ?_
    refine pe_icmp_lt (t := 140) d_E_worksOtherwise_133 (by first | exact hB _ _ | exact hB0 _ _ | exact hBt _ _ | exact ⟨by omega, by omega⟩) (by first | exact hB _ _ | exact hB0 _ _ | exact hBt _ _ | exact ⟨by omega, by omega⟩) (fun h133 => ?_) (fun h133 => ?_)
    · skip
      refine pe_iconst d_E_worksOtherwise_140 ?_
      refine pe_rz d_E_worksOtherwise_141 (by first | exact Or.inl rfl | exact Or.inr rfl | omega) ?_
      exact ⟨rfl, by (try dsimp only); omega⟩
    · skip
      refine pe_iconst d_E_worksOtherwise_136 ?_
      refine pe_goto (t := 141) d_E_worksOtherwise_137 ?_
      refine pe_rz d_E_worksOtherwise_141 (by first | exact Or.inl rfl | exact Or.inr rfl | omega) ?_
      exact ⟨rfl, by (try dsimp only); omega⟩
  refine ⟨fun h1 => ?_, fun h1_15 => ?_⟩
  · show pe_G _ _ _ _ _ _
    refine pe_iload_n d_E_worksOtherwise_130 rfl ?_
    refine pe_bipush d_E_worksOtherwise_131 ?_
    refine pe_icmp_lt (t := 140) d_E_worksOtherwise_133 (by first | exact hB _ _ | exact hB0 _ _ | exact hBt _ _ | exact ⟨by omega, by omega⟩) (by first | exact hB _ _ | exact hB0 _ _ | exact hBt _ _ | exact ⟨by omega, by omega⟩) (fun h133 => ?_) (fun h133 => ?_)
    · skip
      refine pe_iconst d_E_worksOtherwise_140 ?_
      refine pe_rz d_E_worksOtherwise_141 (by first | exact Or.inl rfl | exact Or.inr rfl | omega) ?_
      exact ⟨rfl, by (try dsimp only); omega⟩
    · skip
      refine pe_iconst d_E_worksOtherwise_136 ?_
      refine pe_goto (t := 141) d_E_worksOtherwise_137 ?_
      refine pe_rz d_E_worksOtherwise_141 (by first | exact Or.inl rfl | exact Or.inr rfl | omega) ?_
      exact ⟨rfl, by (try dsimp only); omega⟩
  refine ⟨fun h1 => ?_, fun h1_16 => ?_⟩
  · show pe_G _ _ _ _ _ _
    refine pe_iload_n d_E_worksOtherwise_130 rfl ?_
    refine pe_bipush d_E_worksOtherwise_131 ?_
    refine pe_icmp_lt (t := 140) d_E_worksOtherwise_133 (by first | exact hB _ _ | exact hB0 _ _ | exact hBt _ _ | exact ⟨by omega, by omega⟩) (by first | exact hB _ _ | exact hB0 _ _ | exact hBt _ _ | exact ⟨by omega, by omega⟩) (fun h133 => ?_) (fun h133 => ?_)
    · skip
      refine pe_iconst d_E_worksOtherwise_140 ?_
      refine pe_rz d_E_worksOtherwise_141 (by first | exact Or.inl rfl | exact Or.inr rfl | omega) ?_
      exact ⟨rfl, by (try dsimp only); omega⟩
    · skip
      refine pe_iconst d_E_worksOtherwise_136 ?_
      refine pe_goto (t := 141) d_E_worksOtherwise_137 ?_
      refine pe_rz d_E_worksOtherwise_141 (by first | exact Or.inl rfl | exact Or.inr rfl | omega) ?_
      exact ⟨rfl, by (try dsimp only); omega⟩
  refine ⟨fun h1 => ?_, fun h1_17 => ?_⟩
  · show pe_G _ _ _ _ _ _
    refine pe_iload_n d_E_worksOtherwise_130 rfl ?_
    refine pe_bipush d_E_worksOtherwise_131 ?_
    refine pe_icmp_lt (t := 140) d_E_worksOtherwise_133 (by first | exact hB _ _ | exact hB0 _ _ | exact hBt _ _ | exact ⟨by omega, by omega⟩) (by first | exact hB _ _ | exact hB0 _ _ | exact hBt _ _ | exact ⟨by omega, by omega⟩) (fun h133 => ?_) (fun h133 => ?_)
    · skip
      refine pe_iconst d_E_worksOtherwise_140 ?_
      refine pe_rz d_E_worksOtherwise_141 (by first | exact Or.inl rfl | exact Or.inr rfl | omega) ?_
      exact ⟨rfl, by (try dsimp only); omega⟩
    · skip
      refine pe_iconst d_E_worksOtherwise_136 ?_
      refine pe_goto (t := 141) d_E_worksOtherwise_137 ?_
      refine pe_rz d_E_worksOtherwise_141 (by first | exact Or.inl rfl | exact Or.inr rfl | omega) ?_
      exact ⟨rfl, by (try dsimp only); omega⟩
  refine ⟨fun h1 => ?_, fun h1_18 => ?_⟩
  · show pe_G _ _ _ _ _ _
    refine pe_iload_n d_E_worksOtherwise_130 rfl ?_
    refine pe_bipush d_E_worksOtherwise_131 ?_
    refine pe_icmp_lt (t := 140) d_E_worksOtherwise_133 (by first | exact hB _ _ | exact hB0 _ _ | exact hBt _ _ | exact ⟨by omega, by omega⟩) (by first | exact hB _ _ | exact hB0 _ _ | exact hBt _ _ | exact ⟨by omega, by omega⟩) (fun h133 => ?_) (fun h133 => ?_)
    · skip
      refine pe_iconst d_E_worksOtherwise_140 ?_
      refine pe_rz d_E_worksOtherwise_141 (by first | exact Or.inl rfl | exact Or.inr rfl | omega) ?_
      exact ⟨rfl, by (try dsimp only); omega⟩
    · skip
      refine pe_iconst d_E_worksOtherwise_136 ?_
      refine pe_goto (t := 141) d_E_worksOtherwise_137 ?_
      refine pe_rz d_E_worksOtherwise_141 (by first | exact Or.inl rfl | exact Or.inr rfl | omega) ?_
      exact ⟨rfl, by (try dsimp only); omega⟩
  refine ⟨fun h1 => ?_, fun h1_19 => ?_⟩
  · show pe_G _ _ _ _ _ _
    refine pe_iload_n d_E_worksOtherwise_130 rfl ?_
    refine pe_bipush d_E_worksOtherwise_131 ?_
    refine pe_icmp_lt (t := 140) d_E_worksOtherwise_133 (by first | exact hB _ _ | exact hB0 _ _ | exact hBt _ _ | exact ⟨by omega, by omega⟩) (by first | exact hB _ _ | exact hB0 _ _ | exact hBt _ _ | exact ⟨by omega, by omega⟩) (fun h133 => ?_) (fun h133 => ?_)
    · skip
      refine pe_iconst d_E_worksOtherwise_140 ?_
      refine pe_rz d_E_worksOtherwise_141 (by first | exact Or.inl rfl | exact Or.inr rfl | omega) ?_
      exact ⟨rfl, by (try dsimp only); omega⟩
    · skip
      refine pe_iconst d_E_worksOtherwise_136 ?_
      refine pe_goto (t := 141) d_E_worksOtherwise_137 ?_
      refine pe_rz d_E_worksOtherwise_141 (by first | exact Or.inl rfl | exact Or.inr rfl | omega) ?_
      exact ⟨rfl, by (try dsimp only); omega⟩
  refine ⟨fun h1 => ?_, fun h1_20 => ?_⟩
  · show pe_G _ _ _ _ _ _
    refine pe_iload_n d_E_worksOtherwise_130 rfl ?_
    refine pe_bipush d_E_worksOtherwise_131 ?_
    refine pe_icmp_lt (t := 140) d_E_worksOtherwise_133 (by first | exact hB _ _ | exact hB0 _ _ | exact hBt _ _ | exact ⟨by omega, by omega⟩) (by first | exact hB _ _ | exact hB0 _ _ | exact hBt _ _ | exact ⟨by omega, by omega⟩) (fun h133 => ?_) (fun h133 => ?_)
    · skip
      refine pe_iconst d_E_worksOtherwise_140 ?_
      refine pe_rz d_E_worksOtherwise_141 (by first | exact Or.inl rfl | exact Or.inr rfl | omega) ?_
      exact ⟨rfl, by (try dsimp only); omega⟩
    · skip
      refine pe_iconst d_E_worksOtherwise_136 ?_
      refine pe_goto (t := 141) d_E_worksOtherwise_137 ?_
      refine pe_rz d_E_worksOtherwise_141 (by first | exact Or.inl rfl | exact Or.inr rfl | omega) ?_
      exact ⟨rfl, by (try dsimp only); omega⟩
  refine ⟨fun h1 => ?_, fun h1_21 => ?_⟩
  · show pe_G _ _ _ _ _ _
    refine pe_iload_n d_E_worksOtherwise_130 rfl ?_
    refine pe_bipush d_E_worksOtherwise_131 ?_
    refine pe_icmp_lt (t := 140) d_E_worksOtherwise_133 (by first | exact hB _ _ | exact hB0 _ _ | exact hBt _ _ | exact ⟨by omega, by omega⟩) (by first | exact hB _ _ | exact hB0 _ _ | exact hBt _ _ | exact ⟨by omega, by omega⟩) (fun h133 => ?_) (fun h133 => ?_)
    · skip
      refine pe_iconst d_E_worksOtherwise_140 ?_
      refine pe_rz d_E_worksOtherwise_141 (by first | exact Or.inl rfl | exact Or.inr rfl | omega) ?_
      exact ⟨rfl, by (try dsimp only); omega⟩
    · skip
      refine pe_iconst d_E_worksOtherwise_136 ?_
      refine pe_goto (t := 141) d_E_worksOtherwise_137 ?_
      refine pe_rz d_E_worksOtherwise_141 (by first | exact Or.inl rfl | exact Or.inr rfl | omega) ?_
      exact ⟨rfl, by (try dsimp only); omega⟩
  refine ⟨fun h1 => ?_, fun h1_22 => ?_⟩
  · show pe_G _ _ _ _ _ _
    refine pe_iload_n d_E_worksOtherwise_130 rfl ?_
    refine pe_bipush d_E_worksOtherwise_131 ?_
    refine pe_icmp_lt (t := 140) d_E_worksOtherwise_133 (by first | exact hB _ _ | exact hB0 _ _ | exact hBt _ _ | exact ⟨by omega, by omega⟩) (by first | exact hB _ _ | exact hB0 _ _ | exact hBt _ _ | exact ⟨by omega, by omega⟩) (fun h133 => ?_) (fun h133 => ?_)
    · skip
      refine pe_iconst d_E_worksOtherwise_140 ?_
      refine pe_rz d_E_worksOtherwise_141 (by first | exact Or.inl rfl | exact Or.inr rfl | omega) ?_
      exact ⟨rfl, by (try dsimp only); omega⟩
    · skip
      refine pe_iconst d_E_worksOtherwise_136 ?_
      refine pe_goto (t := 141) d_E_worksOtherwise_137 ?_
      refine pe_rz d_E_worksOtherwise_141 (by first | exact Or.inl rfl | exact Or.inr rfl | omega) ?_
      exact ⟨rfl, by (try dsimp only); omega⟩
  refine ⟨fun h1 => ?_, fun h1_23 => ?_⟩
  · show pe_G _ _ _ _ _ _
    refine pe_iconst d_E_worksOtherwise_128 ?_
    refine pe_rz d_E_worksOtherwise_129 (by first | exact Or.inl rfl | exact Or.inr rfl | omega) ?_
    exact ⟨rfl, by (try dsimp only); omega⟩
  refine ⟨fun h1 => ?_, fun h1_24 => ?_⟩
  · show pe_G _ _ _ _ _ _
    refine pe_iload_n d_E_worksOtherwise_130 rfl ?_
    refine pe_bipush d_E_worksOtherwise_131 ?_
    refine pe_icmp_lt (t := 140) d_E_worksOtherwise_133 (by first | exact hB _ _ | exact hB0 _ _ | exact hBt _ _ | exact ⟨by omega, by omega⟩) (by first | exact hB _ _ | exact hB0 _ _ | exact hBt _ _ | exact ⟨by omega, by omega⟩) (fun h133 => ?_) (fun h133 => ?_)
    · skip
      refine pe_iconst d_E_worksOtherwise_140 ?_
      refine pe_rz d_E_worksOtherwise_141 (by first | exact Or.inl rfl | exact Or.inr rfl | omega) ?_
      exact ⟨rfl, by (try dsimp only); omega⟩
    · skip
      refine pe_iconst d_E_worksOtherwise_136 ?_
      refine pe_goto (t := 141) d_E_worksOtherwise_137 ?_
      refine pe_rz d_E_worksOtherwise_141 (by first | exact Or.inl rfl | exact Or.inr rfl | omega) ?_
      exact ⟨rfl, by (try dsimp only); omega⟩
  refine ⟨fun h1 => ?_, fun h1_25 => ?_⟩
  · show pe_G _ _ _ _ _ _
    refine pe_iconst d_E_worksOtherwise_128 ?_
    refine pe_rz d_E_worksOtherwise_129 (by first | exact Or.inl rfl | exact Or.inr rfl | omega) ?_
    exact ⟨rfl, by (try dsimp only); omega⟩
  refine ⟨fun h1 => ?_, fun h1_26 => ?_⟩
  · show pe_G _ _ _ _ _ _
    refine pe_iconst d_E_worksOtherwise_128 ?_
    refine pe_rz d_E_worksOtherwise_129 (by first | exact Or.inl rfl | exact Or.inr rfl | omega) ?_
    exact ⟨rfl, by (try dsimp only); omega⟩
  refine ⟨fun h1 => ?_, fun h1_27 => ?_⟩
  · show pe_G _ _ _ _ _ _
    refine pe_iconst d_E_worksOtherwise_128 ?_
    refine pe_rz d_E_worksOtherwise_129 (by first | exact Or.inl rfl | exact Or.inr rfl | omega) ?_
    exact ⟨rfl, by (try dsimp only); omega⟩
  show pe_G _ _ _ _ _ _
  refine pe_iload_n d_E_worksOtherwise_130 rfl ?_
  refine pe_bipush d_E_worksOtherwise_131 ?_
  refine pe_icmp_lt (t := 140) d_E_worksOtherwise_133 (by first | exact hB _ _ | exact hB0 _ _ | exact hBt _ _ | exact ⟨by omega, by omega⟩) (by first | exact hB _ _ | exact hB0 _ _ | exact hBt _ _ | exact ⟨by omega, by omega⟩) (fun h133 => ?_) (fun h133 => ?_)
  · skip
    refine pe_iconst d_E_worksOtherwise_140 ?_
    refine pe_rz d_E_worksOtherwise_141 (by first | exact Or.inl rfl | exact Or.inr rfl | omega) ?_
    exact ⟨rfl, by (try dsimp only); omega⟩
  · skip
    refine pe_iconst d_E_worksOtherwise_136 ?_
    refine pe_goto (t := 141) d_E_worksOtherwise_137 ?_
    refine pe_rz d_E_worksOtherwise_141 (by first | exact Or.inl rfl | exact Or.inr rfl | omega) ?_
    exact ⟨rfl, by (try dsimp only); omega⟩
theorem t_E_isBetween {σ : pe_H} {k : Int} (hB : pe_B σ) (hk : pe_R k) : pe_M m_E_isBetween [pe_r 2, pe_i k] σ (pe_qp σ (fun z => z = 0 ∨ z = 1)) := by
  refine pe_in0 (lv := [some (pe_r 2), some (pe_i k)]) ?_
  have hB0 := hB
  have hb7 := hB 2 7
  have hb8 := hB 2 8
  refine pe_aload_n d_E_isBetween_0 rfl ?_
  refine pe_geti f_E_39 d_E_isBetween_1 rfl rfl 8 rfl ?_
  refine pe_iconst d_E_isBetween_4 ?_
  refine pe_icmp_eq (t := 42) d_E_isBetween_5 (by first | exact hB _ _ | exact hB0 _ _ | exact hBt _ _ | exact ⟨by omega, by omega⟩) (by first | exact hB _ _ | exact hB0 _ _ | exact hBt _ _ | exact ⟨by omega, by omega⟩) (fun h5 => ?_) (fun h5 => ?_)
  · skip
    refine pe_iconst d_E_isBetween_42 ?_
    refine pe_rz d_E_isBetween_43 (by first | exact Or.inl rfl | exact Or.inr rfl | omega) ?_
    exact ⟨rfl, by (try dsimp only); omega⟩
  · skip
    refine pe_iload_n d_E_isBetween_8 rfl ?_
    refine pe_aload_n d_E_isBetween_9 rfl ?_
    refine pe_geti f_E_39 d_E_isBetween_10 rfl rfl 8 rfl ?_
    refine pe_aload_n d_E_isBetween_13 rfl ?_
    refine pe_geti f_E_78 d_E_isBetween_14 rfl rfl 7 rfl ?_
    refine pe_minT c_E_128 d_E_isBetween_17 (by first | exact hB _ _ | exact hB0 _ _ | exact hBt _ _ | exact ⟨by omega, by omega⟩) (by first | exact hB _ _ | exact hB0 _ _ | exact hBt _ _ | exact ⟨by omega, by omega⟩) (fun z17 hz17 => ?_)
    refine pe_icmp_lt (t := 42) d_E_isBetween_20 (by first | exact hB _ _ | exact hB0 _ _ | exact hBt _ _ | exact ⟨by omega, by omega⟩) (by first | exact hB _ _ | exact hB0 _ _ | exact hBt _ _ | exact ⟨by omega, by omega⟩) (fun h20 => ?_) (fun h20 => ?_)
    · skip
      refine pe_iconst d_E_isBetween_42 ?_
      refine pe_rz d_E_isBetween_43 (by first | exact Or.inl rfl | exact Or.inr rfl | omega) ?_
      exact ⟨rfl, by (try dsimp only); omega⟩
    · skip
      refine pe_iload_n d_E_isBetween_23 rfl ?_
      refine pe_aload_n d_E_isBetween_24 rfl ?_
      refine pe_geti f_E_39 d_E_isBetween_25 rfl rfl 8 rfl ?_
      refine pe_aload_n d_E_isBetween_28 rfl ?_
      refine pe_geti f_E_78 d_E_isBetween_29 rfl rfl 7 rfl ?_
      refine pe_maxT c_E_134 d_E_isBetween_32 (by first | exact hB _ _ | exact hB0 _ _ | exact hBt _ _ | exact ⟨by omega, by omega⟩) (by first | exact hB _ _ | exact hB0 _ _ | exact hBt _ _ | exact ⟨by omega, by omega⟩) (fun z32 hz32 => ?_)
      refine pe_icmp_ge (t := 42) d_E_isBetween_35 (by first | exact hB _ _ | exact hB0 _ _ | exact hBt _ _ | exact ⟨by omega, by omega⟩) (by first | exact hB _ _ | exact hB0 _ _ | exact hBt _ _ | exact ⟨by omega, by omega⟩) (fun h35 => ?_) (fun h35 => ?_)
      · skip
        refine pe_iconst d_E_isBetween_42 ?_
        refine pe_rz d_E_isBetween_43 (by first | exact Or.inl rfl | exact Or.inr rfl | omega) ?_
        exact ⟨rfl, by (try dsimp only); omega⟩
      · skip
        refine pe_iconst d_E_isBetween_38 ?_
        refine pe_goto (t := 43) d_E_isBetween_39 ?_
        refine pe_rz d_E_isBetween_43 (by first | exact Or.inl rfl | exact Or.inr rfl | omega) ?_
        exact ⟨rfl, by (try dsimp only); omega⟩
theorem t_E_insert_16 {σ : pe_H} {n : Int} (hB : pe_B σ) (hE : pe_EI σ) (hn : 0 ≤ n ∧ n ≤ 1) : pe_M m_E_insert [pe_r 2, pe_r 16, pe_i n] σ (pe_qv (fun σ' => pe_B σ' ∧ (∀ b, b ∉ [2, 3, 4, 5, 6, 7, 8, 9] → σ' b = σ b) ∧ pe_EI σ')) := by
  refine pe_in0 (lv := [some (pe_r 2), some (pe_r 16), some (pe_i n)]) ?_
  have hB0 := hB
  have hE0 := hE
  obtain ⟨hh, hL, hcu, hma, hcl, hco⟩ := hE
  have hlen := pe_ch_len hh.2.2
  refine pe_iload_n d_E_insert_0 rfl ?_
  refine pe_if_eq (t := 15) d_E_insert_1 (by first | exact hB _ _ | exact hB0 _ _ | exact hBt _ _ | exact ⟨by omega, by omega⟩) (fun h1 => ?_) (fun h1 => ?_)
  · skip
    refine pe_rv d_E_insert_15 ?_
    exact ⟨hB, (fun b hb => rfl), hE0⟩
  · skip
    refine pe_aload_n d_E_insert_4 rfl ?_
    refine pe_getr f_E_12 d_E_insert_5 rfl rfl ?_
    refine pe_iload_n d_E_insert_8 rfl ?_
    refine pe_v1p d_E_insert_9 c_E_112 i_T_hasRoomFor s_T_hasRoomFor rfl rfl (t_T_hasRoomFor (by first | exact hB _ _ | exact hB0 _ _ | exact hBt _ _ | exact ⟨by omega, by omega⟩) (by omega)) (fun z9 hz9 => ?_)
    refine pe_if_ne (t := 16) d_E_insert_12 (by first | exact hB _ _ | exact hB0 _ _ | exact hBt _ _ | exact ⟨by omega, by omega⟩) (fun h12 => ?_) (fun h12 => ?_)
    · skip
      refine pe_aload_n d_E_insert_16 rfl ?_
      refine pe_getr f_E_21 d_E_insert_17 rfl rfl ?_
      refine pe_aload_n d_E_insert_20 rfl ?_
      refine pe_geti f_E_78 d_E_insert_21 rfl rfl 7 rfl ?_
      refine pe_iload_n d_E_insert_24 rfl ?_
      refine pe_v2v d_E_insert_25 c_E_115 i_H_keepInsertion s_H_keepInsertion rfl rfl (t_H_keepInsertion hB hh (by omega) (by omega)) (fun σ25 hz25 => ?_)
      obtain ⟨hB, f25, x25⟩ := hz25
      try have u25_0 : σ25 2 5 = σ 2 5 := by first | exact o25 5 (by decide) | exact congrFun (f25 2 (by decide)) 5
      try have u25_1 : σ25 2 6 = σ 2 6 := by first | exact o25 6 (by decide) | exact congrFun (f25 2 (by decide)) 6
      try have u25_2 : σ25 2 7 = σ 2 7 := by first | exact o25 7 (by decide) | exact congrFun (f25 2 (by decide)) 7
      try have u25_3 : σ25 2 8 = σ 2 8 := by first | exact o25 8 (by decide) | exact congrFun (f25 2 (by decide)) 8
      try have u25_4 : σ25 3 1 = σ 3 1 := by first | exact o25 1 (by decide) | exact congrFun (f25 3 (by decide)) 1
      refine pe_aload_n d_E_insert_28 rfl ?_
      refine pe_getr f_E_12 d_E_insert_29 rfl rfl ?_
      refine pe_aload_n d_E_insert_32 rfl ?_
      refine pe_geti f_E_78 d_E_insert_33 rfl rfl 7 rfl ?_
      refine pe_aload_n d_E_insert_36 rfl ?_
      refine pe_iconst d_E_insert_37 ?_
      refine pe_iload_n d_E_insert_38 rfl ?_
      refine pe_v4v d_E_insert_39 c_E_118 i_T_insert s_T_insert rfl rfl (t_T_insert_16 hB (by omega) (by omega) (by omega)) (fun σ39 hz39 => ?_)
      obtain ⟨hB, f39, x39⟩ := hz39
      try have u39_0 : σ39 2 5 = σ25 2 5 := by first | exact o39 5 (by decide) | exact congrFun (f39 2 (by decide)) 5
      try have u39_1 : σ39 2 6 = σ25 2 6 := by first | exact o39 6 (by decide) | exact congrFun (f39 2 (by decide)) 6
      try have u39_2 : σ39 2 7 = σ25 2 7 := by first | exact o39 7 (by decide) | exact congrFun (f39 2 (by decide)) 7
      try have u39_3 : σ39 2 8 = σ25 2 8 := by first | exact o39 8 (by decide) | exact congrFun (f39 2 (by decide)) 8
      try have u39_4 : σ39 3 1 = σ25 3 1 := by first | exact o39 1 (by decide) | exact congrFun (f39 3 (by decide)) 1
      refine pe_aload_n d_E_insert_42 rfl ?_
      refine pe_dup d_E_insert_43 ?_
      refine pe_geti f_E_78 d_E_insert_44 rfl rfl 7 rfl ?_
      refine pe_iload_n d_E_insert_47 rfl ?_
      refine pe_iadd d_E_insert_48 ?_
      refine pe_putiT f_E_78 g_2_7 d_E_insert_49 rfl rfl 7 rfl hB (by first | exact hB _ _ | exact hB0 _ _ | exact hBt _ _ | exact ⟨by omega, by omega⟩) (fun σ49 hB e49 o49 f49 => ?_)
      try have u49_0 : σ49 2 5 = σ39 2 5 := by first | exact o49 5 (by decide) | exact congrFun (f49 2 (by decide)) 5
      try have u49_1 : σ49 2 6 = σ39 2 6 := by first | exact o49 6 (by decide) | exact congrFun (f49 2 (by decide)) 6
      try have u49_2 : σ49 2 7 = σ39 2 7 := by first | exact o49 7 (by decide) | exact congrFun (f49 2 (by decide)) 7
      try have u49_3 : σ49 2 8 = σ39 2 8 := by first | exact o49 8 (by decide) | exact congrFun (f49 2 (by decide)) 8
      try have u49_4 : σ49 3 1 = σ39 3 1 := by first | exact o49 1 (by decide) | exact congrFun (f49 3 (by decide)) 1
      refine pe_aload_n d_E_insert_52 rfl ?_
      refine pe_iconst d_E_insert_53 ?_
      refine pe_putiT f_E_39 g_2_8 d_E_insert_54 rfl rfl 8 rfl hB (by first | exact hB _ _ | exact hB0 _ _ | exact hBt _ _ | exact ⟨by omega, by omega⟩) (fun σ54 hB e54 o54 f54 => ?_)
      try have u54_0 : σ54 2 5 = σ49 2 5 := by first | exact o54 5 (by decide) | exact congrFun (f54 2 (by decide)) 5
      try have u54_1 : σ54 2 6 = σ49 2 6 := by first | exact o54 6 (by decide) | exact congrFun (f54 2 (by decide)) 6
      try have u54_2 : σ54 2 7 = σ49 2 7 := by first | exact o54 7 (by decide) | exact congrFun (f54 2 (by decide)) 7
      try have u54_3 : σ54 2 8 = σ49 2 8 := by first | exact o54 8 (by decide) | exact congrFun (f54 2 (by decide)) 8
      try have u54_4 : σ54 3 1 = σ49 3 1 := by first | exact o54 1 (by decide) | exact congrFun (f54 3 (by decide)) 1
      refine pe_rv d_E_insert_57 ?_
      refine ⟨hB, (fun b hb => (f54 b (by simp at hb ⊢; try omega)).trans ((f49 b (by simp at hb ⊢; try omega)).trans ((f39 b (by simp at hb ⊢; try omega)).trans ((f25 b (by simp at hb ⊢; try omega)).trans (rfl))))), ⟨pe_HI_to x25 ((f54 5 (by decide)).trans ((f49 5 (by decide)).trans ((f39 5 (by decide)).trans (rfl)))) ((f54 6 (by decide)).trans ((f49 6 (by decide)).trans ((f39 6 (by decide)).trans (rfl)))) ((f54 7 (by decide)).trans ((f49 7 (by decide)).trans ((f39 7 (by decide)).trans (rfl)))) ((f54 8 (by decide)).trans ((f49 8 (by decide)).trans ((f39 8 (by decide)).trans (rfl)))) ((f54 9 (by decide)).trans ((f49 9 (by decide)).trans ((f39 9 (by decide)).trans (rfl)))) (by show σ54 3 1 = σ 3 1 + n; omega), pe_LI_to hL ((f54 12 (by decide)).trans ((f49 12 (by decide)).trans ((f39 12 (by decide)).trans ((f25 12 (by decide)).trans (rfl))))) ((f54 13 (by decide)).trans ((f49 13 (by decide)).trans ((f39 13 (by decide)).trans ((f25 13 (by decide)).trans (rfl))))) ((f54 14 (by decide)).trans ((f49 14 (by decide)).trans ((f39 14 (by decide)).trans ((f25 14 (by decide)).trans (rfl))))), by omega, by omega, by omega, by omega⟩⟩
    · skip
      refine pe_rv d_E_insert_15 ?_
      exact ⟨hB, (fun b hb => rfl), hE0⟩
theorem t_E_insert_15 {σ : pe_H} {n : Int} (hB : pe_B σ) (hE : pe_EI σ) (hn : 0 ≤ n ∧ n ≤ 200) : pe_M m_E_insert [pe_r 2, pe_r 15, pe_i n] σ (pe_qv (fun σ' => pe_B σ' ∧ (∀ b, b ∉ [2, 3, 4, 5, 6, 7, 8, 9] → σ' b = σ b) ∧ pe_EI σ')) := by
  refine pe_in0 (lv := [some (pe_r 2), some (pe_r 15), some (pe_i n)]) ?_
  have hB0 := hB
  have hE0 := hE
  obtain ⟨hh, hL, hcu, hma, hcl, hco⟩ := hE
  have hlen := pe_ch_len hh.2.2
  refine pe_iload_n d_E_insert_0 rfl ?_
  refine pe_if_eq (t := 15) d_E_insert_1 (by first | exact hB _ _ | exact hB0 _ _ | exact hBt _ _ | exact ⟨by omega, by omega⟩) (fun h1 => ?_) (fun h1 => ?_)
  · skip
    refine pe_rv d_E_insert_15 ?_
    exact ⟨hB, (fun b hb => rfl), hE0⟩
  · skip
    refine pe_aload_n d_E_insert_4 rfl ?_
    refine pe_getr f_E_12 d_E_insert_5 rfl rfl ?_
    refine pe_iload_n d_E_insert_8 rfl ?_
    refine pe_v1p d_E_insert_9 c_E_112 i_T_hasRoomFor s_T_hasRoomFor rfl rfl (t_T_hasRoomFor (by first | exact hB _ _ | exact hB0 _ _ | exact hBt _ _ | exact ⟨by omega, by omega⟩) (by omega)) (fun z9 hz9 => ?_)
    refine pe_if_ne (t := 16) d_E_insert_12 (by first | exact hB _ _ | exact hB0 _ _ | exact hBt _ _ | exact ⟨by omega, by omega⟩) (fun h12 => ?_) (fun h12 => ?_)
    · skip
      refine pe_aload_n d_E_insert_16 rfl ?_
      refine pe_getr f_E_21 d_E_insert_17 rfl rfl ?_
      refine pe_aload_n d_E_insert_20 rfl ?_
      refine pe_geti f_E_78 d_E_insert_21 rfl rfl 7 rfl ?_
      refine pe_iload_n d_E_insert_24 rfl ?_
      refine pe_v2v d_E_insert_25 c_E_115 i_H_keepInsertion s_H_keepInsertion rfl rfl (t_H_keepInsertion hB hh (by omega) (by omega)) (fun σ25 hz25 => ?_)
      obtain ⟨hB, f25, x25⟩ := hz25
      try have u25_0 : σ25 2 5 = σ 2 5 := by first | exact o25 5 (by decide) | exact congrFun (f25 2 (by decide)) 5
      try have u25_1 : σ25 2 6 = σ 2 6 := by first | exact o25 6 (by decide) | exact congrFun (f25 2 (by decide)) 6
      try have u25_2 : σ25 2 7 = σ 2 7 := by first | exact o25 7 (by decide) | exact congrFun (f25 2 (by decide)) 7
      try have u25_3 : σ25 2 8 = σ 2 8 := by first | exact o25 8 (by decide) | exact congrFun (f25 2 (by decide)) 8
      try have u25_4 : σ25 3 1 = σ 3 1 := by first | exact o25 1 (by decide) | exact congrFun (f25 3 (by decide)) 1
      refine pe_aload_n d_E_insert_28 rfl ?_
      refine pe_getr f_E_12 d_E_insert_29 rfl rfl ?_
      refine pe_aload_n d_E_insert_32 rfl ?_
      refine pe_geti f_E_78 d_E_insert_33 rfl rfl 7 rfl ?_
      refine pe_aload_n d_E_insert_36 rfl ?_
      refine pe_iconst d_E_insert_37 ?_
      refine pe_iload_n d_E_insert_38 rfl ?_
      refine pe_v4v d_E_insert_39 c_E_118 i_T_insert s_T_insert rfl rfl (t_T_insert_15 hB (by omega) (by omega) (by omega)) (fun σ39 hz39 => ?_)
      obtain ⟨hB, f39, x39⟩ := hz39
      try have u39_0 : σ39 2 5 = σ25 2 5 := by first | exact o39 5 (by decide) | exact congrFun (f39 2 (by decide)) 5
      try have u39_1 : σ39 2 6 = σ25 2 6 := by first | exact o39 6 (by decide) | exact congrFun (f39 2 (by decide)) 6
      try have u39_2 : σ39 2 7 = σ25 2 7 := by first | exact o39 7 (by decide) | exact congrFun (f39 2 (by decide)) 7
      try have u39_3 : σ39 2 8 = σ25 2 8 := by first | exact o39 8 (by decide) | exact congrFun (f39 2 (by decide)) 8
      try have u39_4 : σ39 3 1 = σ25 3 1 := by first | exact o39 1 (by decide) | exact congrFun (f39 3 (by decide)) 1
      refine pe_aload_n d_E_insert_42 rfl ?_
      refine pe_dup d_E_insert_43 ?_
      refine pe_geti f_E_78 d_E_insert_44 rfl rfl 7 rfl ?_
      refine pe_iload_n d_E_insert_47 rfl ?_
      refine pe_iadd d_E_insert_48 ?_
      refine pe_putiT f_E_78 g_2_7 d_E_insert_49 rfl rfl 7 rfl hB (by first | exact hB _ _ | exact hB0 _ _ | exact hBt _ _ | exact ⟨by omega, by omega⟩) (fun σ49 hB e49 o49 f49 => ?_)
      try have u49_0 : σ49 2 5 = σ39 2 5 := by first | exact o49 5 (by decide) | exact congrFun (f49 2 (by decide)) 5
      try have u49_1 : σ49 2 6 = σ39 2 6 := by first | exact o49 6 (by decide) | exact congrFun (f49 2 (by decide)) 6
      try have u49_2 : σ49 2 7 = σ39 2 7 := by first | exact o49 7 (by decide) | exact congrFun (f49 2 (by decide)) 7
      try have u49_3 : σ49 2 8 = σ39 2 8 := by first | exact o49 8 (by decide) | exact congrFun (f49 2 (by decide)) 8
      try have u49_4 : σ49 3 1 = σ39 3 1 := by first | exact o49 1 (by decide) | exact congrFun (f49 3 (by decide)) 1
      refine pe_aload_n d_E_insert_52 rfl ?_
      refine pe_iconst d_E_insert_53 ?_
      refine pe_putiT f_E_39 g_2_8 d_E_insert_54 rfl rfl 8 rfl hB (by first | exact hB _ _ | exact hB0 _ _ | exact hBt _ _ | exact ⟨by omega, by omega⟩) (fun σ54 hB e54 o54 f54 => ?_)
      try have u54_0 : σ54 2 5 = σ49 2 5 := by first | exact o54 5 (by decide) | exact congrFun (f54 2 (by decide)) 5
      try have u54_1 : σ54 2 6 = σ49 2 6 := by first | exact o54 6 (by decide) | exact congrFun (f54 2 (by decide)) 6
      try have u54_2 : σ54 2 7 = σ49 2 7 := by first | exact o54 7 (by decide) | exact congrFun (f54 2 (by decide)) 7
      try have u54_3 : σ54 2 8 = σ49 2 8 := by first | exact o54 8 (by decide) | exact congrFun (f54 2 (by decide)) 8
      try have u54_4 : σ54 3 1 = σ49 3 1 := by first | exact o54 1 (by decide) | exact congrFun (f54 3 (by decide)) 1
      refine pe_rv d_E_insert_57 ?_
      refine ⟨hB, (fun b hb => (f54 b (by simp at hb ⊢; try omega)).trans ((f49 b (by simp at hb ⊢; try omega)).trans ((f39 b (by simp at hb ⊢; try omega)).trans ((f25 b (by simp at hb ⊢; try omega)).trans (rfl))))), ⟨pe_HI_to x25 ((f54 5 (by decide)).trans ((f49 5 (by decide)).trans ((f39 5 (by decide)).trans (rfl)))) ((f54 6 (by decide)).trans ((f49 6 (by decide)).trans ((f39 6 (by decide)).trans (rfl)))) ((f54 7 (by decide)).trans ((f49 7 (by decide)).trans ((f39 7 (by decide)).trans (rfl)))) ((f54 8 (by decide)).trans ((f49 8 (by decide)).trans ((f39 8 (by decide)).trans (rfl)))) ((f54 9 (by decide)).trans ((f49 9 (by decide)).trans ((f39 9 (by decide)).trans (rfl)))) (by show σ54 3 1 = σ 3 1 + n; omega), pe_LI_to hL ((f54 12 (by decide)).trans ((f49 12 (by decide)).trans ((f39 12 (by decide)).trans ((f25 12 (by decide)).trans (rfl))))) ((f54 13 (by decide)).trans ((f49 13 (by decide)).trans ((f39 13 (by decide)).trans ((f25 13 (by decide)).trans (rfl))))) ((f54 14 (by decide)).trans ((f49 14 (by decide)).trans ((f39 14 (by decide)).trans ((f25 14 (by decide)).trans (rfl))))), by omega, by omega, by omega, by omega⟩⟩
    · skip
      refine pe_rv d_E_insert_15 ?_
      exact ⟨hB, (fun b hb => rfl), hE0⟩
theorem t_E_insertOne {σ : pe_H} {k : Int} (hB : pe_B σ) (hE : pe_EI σ) (hk : pe_R k) : pe_M m_E_insertOne [pe_r 2, pe_i k] σ (pe_qv (fun σ' => pe_B σ' ∧ (∀ b, b ∉ [2, 3, 4, 5, 6, 7, 8, 9, 16] → σ' b = σ b) ∧ pe_EI σ')) := by
  refine pe_in0 (lv := [some (pe_r 2), some (pe_i k)]) ?_
  have hB0 := hB
  have hE0 := hE
  obtain ⟨hh, hL, hcu, hma, hcl, hco⟩ := hE
  have hlen := pe_ch_len hh.2.2
  refine pe_aload_n d_E_insertOne_0 rfl ?_
  refine pe_getr f_E_36 d_E_insertOne_1 rfl rfl ?_
  refine pe_iconst d_E_insertOne_4 ?_
  refine pe_iload_n d_E_insertOne_5 rfl ?_
  refine pe_iastT d_E_insertOne_6 rfl (by omega) (by omega) hB (by first | exact hB _ _ | exact hB0 _ _ | exact hBt _ _ | exact ⟨by omega, by omega⟩) (fun σ6 hB e6 o6 f6 => ?_)
  try have u6_0 : σ6 2 5 = σ 2 5 := by first | exact o6 5 (by decide) | exact congrFun (f6 2 (by decide)) 5
  try have u6_1 : σ6 2 6 = σ 2 6 := by first | exact o6 6 (by decide) | exact congrFun (f6 2 (by decide)) 6
  try have u6_2 : σ6 2 7 = σ 2 7 := by first | exact o6 7 (by decide) | exact congrFun (f6 2 (by decide)) 7
  try have u6_3 : σ6 2 8 = σ 2 8 := by first | exact o6 8 (by decide) | exact congrFun (f6 2 (by decide)) 8
  try have u6_4 : σ6 3 1 = σ 3 1 := by first | exact o6 1 (by decide) | exact congrFun (f6 3 (by decide)) 1
  refine pe_aload_n d_E_insertOne_7 rfl ?_
  refine pe_aload_n d_E_insertOne_8 rfl ?_
  refine pe_getr f_E_36 d_E_insertOne_9 rfl rfl ?_
  refine pe_iconst d_E_insertOne_12 ?_
  refine pe_v2v d_E_insertOne_13 c_E_105 i_E_insert s_E_insert rfl rfl (t_E_insert_16 hB ⟨pe_HI_to hh ((f6 5 (by decide)).trans (rfl)) ((f6 6 (by decide)).trans (rfl)) ((f6 7 (by decide)).trans (rfl)) ((f6 8 (by decide)).trans (rfl)) ((f6 9 (by decide)).trans (rfl)) (congrFun ((f6 3 (by decide)).trans (rfl)) 1), pe_LI_to hL ((f6 12 (by decide)).trans (rfl)) ((f6 13 (by decide)).trans (rfl)) ((f6 14 (by decide)).trans (rfl)), by omega, by omega, by omega, by omega⟩ (by omega)) (fun σ13 hz13 => ?_)
  obtain ⟨hB, f13, x13⟩ := hz13
  try have u13_0 : σ13 2 5 = σ6 2 5 := by first | exact o13 5 (by decide) | exact congrFun (f13 2 (by decide)) 5
  try have u13_1 : σ13 2 6 = σ6 2 6 := by first | exact o13 6 (by decide) | exact congrFun (f13 2 (by decide)) 6
  try have u13_2 : σ13 2 7 = σ6 2 7 := by first | exact o13 7 (by decide) | exact congrFun (f13 2 (by decide)) 7
  try have u13_3 : σ13 2 8 = σ6 2 8 := by first | exact o13 8 (by decide) | exact congrFun (f13 2 (by decide)) 8
  try have u13_4 : σ13 3 1 = σ6 3 1 := by first | exact o13 1 (by decide) | exact congrFun (f13 3 (by decide)) 1
  refine pe_rv d_E_insertOne_16 ?_
  exact ⟨hB, (fun b hb => (f13 b (by simp at hb ⊢; try omega)).trans ((f6 b (by simp at hb ⊢; try omega)).trans (rfl))), x13⟩
theorem t_E_removeBetween {σ : pe_H} {f t : Int} (hB : pe_B σ) (hE : pe_EI σ) (hf : 0 ≤ f ∧ f ≤ σ 3 1) (ht : 0 ≤ t ∧ t ≤ σ 3 1) : pe_M m_E_removeBetween [pe_r 2, pe_i f, pe_i t] σ (pe_qv (fun σ' => pe_B σ' ∧ (∀ b, b ∉ [2, 3, 4, 5, 6, 7, 8, 9, 10] → σ' b = σ b) ∧ pe_EI σ')) := by
  refine pe_in0 (lv := [some (pe_r 2), some (pe_i f), some (pe_i t)]) ?_
  have hB0 := hB
  have hE0 := hE
  obtain ⟨hh, hL, hcu, hma, hcl, hco⟩ := hE
  have hlen := pe_ch_len hh.2.2
  refine pe_iload_n d_E_removeBetween_0 rfl ?_
  refine pe_iload_n d_E_removeBetween_1 rfl ?_
  refine pe_icmp_lt (t := 6) d_E_removeBetween_2 (by first | exact hB _ _ | exact hB0 _ _ | exact hBt _ _ | exact ⟨by omega, by omega⟩) (by first | exact hB _ _ | exact hB0 _ _ | exact hBt _ _ | exact ⟨by omega, by omega⟩) (fun h2 => ?_) (fun h2 => ?_)
  · skip
    refine pe_aload_n d_E_removeBetween_6 rfl ?_
    refine pe_getr f_E_21 d_E_removeBetween_7 rfl rfl ?_
    refine pe_aload_n d_E_removeBetween_10 rfl ?_
    refine pe_getr f_E_12 d_E_removeBetween_11 rfl rfl ?_
    refine pe_iload_n d_E_removeBetween_14 rfl ?_
    refine pe_iload_n d_E_removeBetween_15 rfl ?_
    refine pe_iload_n d_E_removeBetween_16 rfl ?_
    refine pe_isub d_E_removeBetween_17 ?_
    refine pe_aload_n d_E_removeBetween_18 rfl ?_
    refine pe_geti f_E_78 d_E_removeBetween_19 rfl rfl 7 rfl ?_
    refine pe_v4v d_E_removeBetween_22 c_E_121 i_H_keepRemoval s_H_keepRemoval rfl rfl (t_H_keepRemoval hB hh (by omega) (by omega)) (fun σ22 hz22 => ?_)
    obtain ⟨hB, f22, x22⟩ := hz22
    try have u22_0 : σ22 2 5 = σ 2 5 := by first | exact o22 5 (by decide) | exact congrFun (f22 2 (by decide)) 5
    try have u22_1 : σ22 2 6 = σ 2 6 := by first | exact o22 6 (by decide) | exact congrFun (f22 2 (by decide)) 6
    try have u22_2 : σ22 2 7 = σ 2 7 := by first | exact o22 7 (by decide) | exact congrFun (f22 2 (by decide)) 7
    try have u22_3 : σ22 2 8 = σ 2 8 := by first | exact o22 8 (by decide) | exact congrFun (f22 2 (by decide)) 8
    try have u22_4 : σ22 3 1 = σ 3 1 := by first | exact o22 1 (by decide) | exact congrFun (f22 3 (by decide)) 1
    refine pe_aload_n d_E_removeBetween_25 rfl ?_
    refine pe_getr f_E_12 d_E_removeBetween_26 rfl rfl ?_
    refine pe_iload_n d_E_removeBetween_29 rfl ?_
    refine pe_iload_n d_E_removeBetween_30 rfl ?_
    refine pe_iload_n d_E_removeBetween_31 rfl ?_
    refine pe_isub d_E_removeBetween_32 ?_
    refine pe_v2v d_E_removeBetween_33 c_E_125 i_T_remove s_T_remove rfl rfl (t_T_remove hB (by omega) (by omega)) (fun σ33 hz33 => ?_)
    obtain ⟨hB, f33, x33⟩ := hz33
    try have u33_0 : σ33 2 5 = σ22 2 5 := by first | exact o33 5 (by decide) | exact congrFun (f33 2 (by decide)) 5
    try have u33_1 : σ33 2 6 = σ22 2 6 := by first | exact o33 6 (by decide) | exact congrFun (f33 2 (by decide)) 6
    try have u33_2 : σ33 2 7 = σ22 2 7 := by first | exact o33 7 (by decide) | exact congrFun (f33 2 (by decide)) 7
    try have u33_3 : σ33 2 8 = σ22 2 8 := by first | exact o33 8 (by decide) | exact congrFun (f33 2 (by decide)) 8
    try have u33_4 : σ33 3 1 = σ22 3 1 := by first | exact o33 1 (by decide) | exact congrFun (f33 3 (by decide)) 1
    refine pe_aload_n d_E_removeBetween_36 rfl ?_
    refine pe_iload_n d_E_removeBetween_37 rfl ?_
    refine pe_putiT f_E_78 g_2_7 d_E_removeBetween_38 rfl rfl 7 rfl hB (by first | exact hB _ _ | exact hB0 _ _ | exact hBt _ _ | exact ⟨by omega, by omega⟩) (fun σ38 hB e38 o38 f38 => ?_)
    try have u38_0 : σ38 2 5 = σ33 2 5 := by first | exact o38 5 (by decide) | exact congrFun (f38 2 (by decide)) 5
    try have u38_1 : σ38 2 6 = σ33 2 6 := by first | exact o38 6 (by decide) | exact congrFun (f38 2 (by decide)) 6
    try have u38_2 : σ38 2 7 = σ33 2 7 := by first | exact o38 7 (by decide) | exact congrFun (f38 2 (by decide)) 7
    try have u38_3 : σ38 2 8 = σ33 2 8 := by first | exact o38 8 (by decide) | exact congrFun (f38 2 (by decide)) 8
    try have u38_4 : σ38 3 1 = σ33 3 1 := by first | exact o38 1 (by decide) | exact congrFun (f38 3 (by decide)) 1
    refine pe_aload_n d_E_removeBetween_41 rfl ?_
    refine pe_iconst d_E_removeBetween_42 ?_
    refine pe_putiT f_E_39 g_2_8 d_E_removeBetween_43 rfl rfl 8 rfl hB (by first | exact hB _ _ | exact hB0 _ _ | exact hBt _ _ | exact ⟨by omega, by omega⟩) (fun σ43 hB e43 o43 f43 => ?_)
    try have u43_0 : σ43 2 5 = σ38 2 5 := by first | exact o43 5 (by decide) | exact congrFun (f43 2 (by decide)) 5
    try have u43_1 : σ43 2 6 = σ38 2 6 := by first | exact o43 6 (by decide) | exact congrFun (f43 2 (by decide)) 6
    try have u43_2 : σ43 2 7 = σ38 2 7 := by first | exact o43 7 (by decide) | exact congrFun (f43 2 (by decide)) 7
    try have u43_3 : σ43 2 8 = σ38 2 8 := by first | exact o43 8 (by decide) | exact congrFun (f43 2 (by decide)) 8
    try have u43_4 : σ43 3 1 = σ38 3 1 := by first | exact o43 1 (by decide) | exact congrFun (f43 3 (by decide)) 1
    refine pe_rv d_E_removeBetween_46 ?_
    refine ⟨hB, (fun b hb => (f43 b (by simp at hb ⊢; try omega)).trans ((f38 b (by simp at hb ⊢; try omega)).trans ((f33 b (by simp at hb ⊢; try omega)).trans ((f22 b (by simp at hb ⊢; try omega)).trans (rfl))))), ⟨pe_HI_to x22 ((f43 5 (by decide)).trans ((f38 5 (by decide)).trans ((f33 5 (by decide)).trans (rfl)))) ((f43 6 (by decide)).trans ((f38 6 (by decide)).trans ((f33 6 (by decide)).trans (rfl)))) ((f43 7 (by decide)).trans ((f38 7 (by decide)).trans ((f33 7 (by decide)).trans (rfl)))) ((f43 8 (by decide)).trans ((f38 8 (by decide)).trans ((f33 8 (by decide)).trans (rfl)))) ((f43 9 (by decide)).trans ((f38 9 (by decide)).trans ((f33 9 (by decide)).trans (rfl)))) (by show σ43 3 1 = σ 3 1 - (t - f); omega), pe_LI_to hL ((f43 12 (by decide)).trans ((f38 12 (by decide)).trans ((f33 12 (by decide)).trans ((f22 12 (by decide)).trans (rfl))))) ((f43 13 (by decide)).trans ((f38 13 (by decide)).trans ((f33 13 (by decide)).trans ((f22 13 (by decide)).trans (rfl))))) ((f43 14 (by decide)).trans ((f38 14 (by decide)).trans ((f33 14 (by decide)).trans ((f22 14 (by decide)).trans (rfl))))), by omega, by omega, by omega, by omega⟩⟩
  · skip
    refine pe_rv d_E_removeBetween_5 ?_
    exact ⟨hB, (fun b hb => rfl), hE0⟩
theorem t_E_cut {σ : pe_H} (hB : pe_B σ) (hE : pe_EI σ) : pe_M m_E_cut [pe_r 2] σ (pe_qv (fun σ' => pe_B σ' ∧ (∀ b, b ∉ [2, 3, 4, 5, 6, 7, 8, 9, 10, 15] → σ' b = σ b) ∧ pe_EI σ')) := by
  refine pe_in0 (lv := [some (pe_r 2), none, none]) ?_
  have hB0 := hB
  have hE0 := hE
  obtain ⟨hh, hL, hcu, hma, hcl, hco⟩ := hE
  have hlen := pe_ch_len hh.2.2
  refine pe_aload_n d_E_cut_0 rfl ?_
  refine pe_geti f_E_39 d_E_cut_1 rfl rfl 8 rfl ?_
  refine pe_iconst d_E_cut_4 ?_
  refine pe_icmp_eq (t := 19) d_E_cut_5 (by first | exact hB _ _ | exact hB0 _ _ | exact hBt _ _ | exact ⟨by omega, by omega⟩) (by first | exact hB _ _ | exact hB0 _ _ | exact hBt _ _ | exact ⟨by omega, by omega⟩) (fun h5 => ?_) (fun h5 => ?_)
  · skip
    refine pe_rv d_E_cut_19 ?_
    exact ⟨hB, (fun b hb => rfl), hE0⟩
  · skip
    refine pe_aload_n d_E_cut_8 rfl ?_
    refine pe_geti f_E_39 d_E_cut_9 rfl rfl 8 rfl ?_
    refine pe_aload_n d_E_cut_12 rfl ?_
    refine pe_geti f_E_78 d_E_cut_13 rfl rfl 7 rfl ?_
    refine pe_icmp_ne (t := 20) d_E_cut_16 (by first | exact hB _ _ | exact hB0 _ _ | exact hBt _ _ | exact ⟨by omega, by omega⟩) (by first | exact hB _ _ | exact hB0 _ _ | exact hBt _ _ | exact ⟨by omega, by omega⟩) (fun h16 => ?_) (fun h16 => ?_)
    · skip
      refine pe_aload_n d_E_cut_20 rfl ?_
      refine pe_geti f_E_39 d_E_cut_21 rfl rfl 8 rfl ?_
      refine pe_aload_n d_E_cut_24 rfl ?_
      refine pe_geti f_E_78 d_E_cut_25 rfl rfl 7 rfl ?_
      refine pe_minT c_E_128 d_E_cut_28 (by first | exact hB _ _ | exact hB0 _ _ | exact hBt _ _ | exact ⟨by omega, by omega⟩) (by first | exact hB _ _ | exact hB0 _ _ | exact hBt _ _ | exact ⟨by omega, by omega⟩) (fun z28 hz28 => ?_)
      refine pe_istore_n d_E_cut_31 ?_
      refine pe_aload_n d_E_cut_32 rfl ?_
      refine pe_geti f_E_39 d_E_cut_33 rfl rfl 8 rfl ?_
      refine pe_aload_n d_E_cut_36 rfl ?_
      refine pe_geti f_E_78 d_E_cut_37 rfl rfl 7 rfl ?_
      refine pe_maxT c_E_134 d_E_cut_40 (by first | exact hB _ _ | exact hB0 _ _ | exact hBt _ _ | exact ⟨by omega, by omega⟩) (by first | exact hB _ _ | exact hB0 _ _ | exact hBt _ _ | exact ⟨by omega, by omega⟩) (fun z40 hz40 => ?_)
      refine pe_istore_n d_E_cut_43 ?_
      refine pe_aload_n d_E_cut_44 rfl ?_
      refine pe_iload_n d_E_cut_45 rfl ?_
      refine pe_iload_n d_E_cut_46 rfl ?_
      refine pe_isub d_E_cut_47 ?_
      refine pe_putiT f_E_102 g_2_5 d_E_cut_48 rfl rfl 5 rfl hB (by first | exact hB _ _ | exact hB0 _ _ | exact hBt _ _ | exact ⟨by omega, by omega⟩) (fun σ48 hB e48 o48 f48 => ?_)
      try have u48_0 : σ48 2 5 = σ 2 5 := by first | exact o48 5 (by decide) | exact congrFun (f48 2 (by decide)) 5
      try have u48_1 : σ48 2 6 = σ 2 6 := by first | exact o48 6 (by decide) | exact congrFun (f48 2 (by decide)) 6
      try have u48_2 : σ48 2 7 = σ 2 7 := by first | exact o48 7 (by decide) | exact congrFun (f48 2 (by decide)) 7
      try have u48_3 : σ48 2 8 = σ 2 8 := by first | exact o48 8 (by decide) | exact congrFun (f48 2 (by decide)) 8
      try have u48_4 : σ48 3 1 = σ 3 1 := by first | exact o48 1 (by decide) | exact congrFun (f48 3 (by decide)) 1
      refine pe_aload_n d_E_cut_51 rfl ?_
      refine pe_getr f_E_12 d_E_cut_52 rfl rfl ?_
      refine pe_aload_n d_E_cut_55 rfl ?_
      refine pe_getr f_E_32 d_E_cut_56 rfl rfl ?_
      refine pe_iconst d_E_cut_59 ?_
      refine pe_iload_n d_E_cut_60 rfl ?_
      refine pe_aload_n d_E_cut_61 rfl ?_
      refine pe_geti f_E_102 d_E_cut_62 rfl rfl 5 rfl ?_
      refine pe_v4v d_E_cut_65 c_E_137 i_T_copyTo s_T_copyTo rfl rfl (t_T_copyTo_15 hB (by omega) (by omega) (by omega)) (fun σ65 hz65 => ?_)
      obtain ⟨hB, f65⟩ := hz65
      try have u65_0 : σ65 2 5 = σ48 2 5 := by first | exact o65 5 (by decide) | exact congrFun (f65 2 (by decide)) 5
      try have u65_1 : σ65 2 6 = σ48 2 6 := by first | exact o65 6 (by decide) | exact congrFun (f65 2 (by decide)) 6
      try have u65_2 : σ65 2 7 = σ48 2 7 := by first | exact o65 7 (by decide) | exact congrFun (f65 2 (by decide)) 7
      try have u65_3 : σ65 2 8 = σ48 2 8 := by first | exact o65 8 (by decide) | exact congrFun (f65 2 (by decide)) 8
      try have u65_4 : σ65 3 1 = σ48 3 1 := by first | exact o65 1 (by decide) | exact congrFun (f65 3 (by decide)) 1
      refine pe_aload_n d_E_cut_68 rfl ?_
      refine pe_iload_n d_E_cut_69 rfl ?_
      refine pe_iload_n d_E_cut_70 rfl ?_
      refine pe_v2v d_E_cut_71 c_E_89 i_E_removeBetween s_E_removeBetween rfl rfl (t_E_removeBetween hB ⟨pe_HI_to hh ((f65 5 (by decide)).trans ((f48 5 (by decide)).trans (rfl))) ((f65 6 (by decide)).trans ((f48 6 (by decide)).trans (rfl))) ((f65 7 (by decide)).trans ((f48 7 (by decide)).trans (rfl))) ((f65 8 (by decide)).trans ((f48 8 (by decide)).trans (rfl))) ((f65 9 (by decide)).trans ((f48 9 (by decide)).trans (rfl))) (congrFun ((f65 3 (by decide)).trans ((f48 3 (by decide)).trans (rfl))) 1), pe_LI_to hL ((f65 12 (by decide)).trans ((f48 12 (by decide)).trans (rfl))) ((f65 13 (by decide)).trans ((f48 13 (by decide)).trans (rfl))) ((f65 14 (by decide)).trans ((f48 14 (by decide)).trans (rfl))), by omega, by omega, by omega, by omega⟩ (by omega) (by omega)) (fun σ71 hz71 => ?_)
      obtain ⟨hB, f71, x71⟩ := hz71
      try have u71_0 : σ71 2 5 = σ65 2 5 := by first | exact o71 5 (by decide) | exact congrFun (f71 2 (by decide)) 5
      try have u71_1 : σ71 2 6 = σ65 2 6 := by first | exact o71 6 (by decide) | exact congrFun (f71 2 (by decide)) 6
      try have u71_2 : σ71 2 7 = σ65 2 7 := by first | exact o71 7 (by decide) | exact congrFun (f71 2 (by decide)) 7
      try have u71_3 : σ71 2 8 = σ65 2 8 := by first | exact o71 8 (by decide) | exact congrFun (f71 2 (by decide)) 8
      try have u71_4 : σ71 3 1 = σ65 3 1 := by first | exact o71 1 (by decide) | exact congrFun (f71 3 (by decide)) 1
      refine pe_rv d_E_cut_74 ?_
      exact ⟨hB, (fun b hb => (f71 b (by simp at hb ⊢; try omega)).trans ((f65 b (by simp at hb ⊢; try omega)).trans ((f48 b (by simp at hb ⊢; try omega)).trans (rfl)))), x71⟩
    · skip
      refine pe_rv d_E_cut_19 ?_
      exact ⟨hB, (fun b hb => rfl), hE0⟩
theorem t_E_undo {σ : pe_H} (hB : pe_B σ) (hE : pe_EI σ) : pe_M m_E_undo [pe_r 2] σ (pe_qv (fun σ' => pe_B σ' ∧ (∀ b, b ∉ [2, 3, 4, 5, 6, 7, 8, 9] → σ' b = σ b) ∧ pe_EI σ')) := by
  refine pe_in0 (lv := [some (pe_r 2), none]) ?_
  have hB0 := hB
  have hE0 := hE
  obtain ⟨hh, hL, hcu, hma, hcl, hco⟩ := hE
  have hlen := pe_ch_len hh.2.2
  refine pe_aload_n d_E_undo_0 rfl ?_
  refine pe_getr f_E_21 d_E_undo_1 rfl rfl ?_
  refine pe_aload_n d_E_undo_4 rfl ?_
  refine pe_getr f_E_12 d_E_undo_5 rfl rfl ?_
  refine pe_v1i d_E_undo_8 c_E_141 i_H_undoIn s_H_undoIn rfl rfl (t_H_undoIn hB hh) (fun z8 σ8 hz8 => ?_)
  obtain ⟨hB, f8, x8⟩ := hz8
  try have u8_0 : σ8 2 5 = σ 2 5 := by first | exact o8 5 (by decide) | exact congrFun (f8 2 (by decide)) 5
  try have u8_1 : σ8 2 6 = σ 2 6 := by first | exact o8 6 (by decide) | exact congrFun (f8 2 (by decide)) 6
  try have u8_2 : σ8 2 7 = σ 2 7 := by first | exact o8 7 (by decide) | exact congrFun (f8 2 (by decide)) 7
  try have u8_3 : σ8 2 8 = σ 2 8 := by first | exact o8 8 (by decide) | exact congrFun (f8 2 (by decide)) 8
  try have u8_4 : σ8 3 1 = σ 3 1 := by first | exact o8 1 (by decide) | exact congrFun (f8 3 (by decide)) 1
  obtain ⟨x8, y8⟩ := x8
  have hl8 := pe_ch_len x8.2.2
  refine pe_istore_n d_E_undo_11 ?_
  refine pe_iload_n d_E_undo_12 rfl ?_
  refine pe_iconst d_E_undo_13 ?_
  refine pe_icmp_eq (t := 27) d_E_undo_14 (by first | exact hB _ _ | exact hB0 _ _ | exact hBt _ _ | exact ⟨by omega, by omega⟩) (by first | exact hB _ _ | exact hB0 _ _ | exact hBt _ _ | exact ⟨by omega, by omega⟩) (fun h14 => ?_) (fun h14 => ?_)
  · skip
    refine pe_rv d_E_undo_27 ?_
    refine ⟨hB, (fun b hb => (f8 b (by simp at hb ⊢; try omega)).trans (rfl)), ⟨pe_HI_to x8 (rfl) (rfl) (rfl) (rfl) (rfl) (congrFun (rfl) 1), pe_LI_to hL ((f8 12 (by decide)).trans (rfl)) ((f8 13 (by decide)).trans (rfl)) ((f8 14 (by decide)).trans (rfl)), by omega, by omega, by omega, by omega⟩⟩
  · skip
    refine pe_aload_n d_E_undo_17 rfl ?_
    refine pe_iload_n d_E_undo_18 rfl ?_
    refine pe_putiT f_E_78 g_2_7 d_E_undo_19 rfl rfl 7 rfl hB (by first | exact hB _ _ | exact hB0 _ _ | exact hBt _ _ | exact ⟨by omega, by omega⟩) (fun σ19 hB e19 o19 f19 => ?_)
    try have u19_0 : σ19 2 5 = σ8 2 5 := by first | exact o19 5 (by decide) | exact congrFun (f19 2 (by decide)) 5
    try have u19_1 : σ19 2 6 = σ8 2 6 := by first | exact o19 6 (by decide) | exact congrFun (f19 2 (by decide)) 6
    try have u19_2 : σ19 2 7 = σ8 2 7 := by first | exact o19 7 (by decide) | exact congrFun (f19 2 (by decide)) 7
    try have u19_3 : σ19 2 8 = σ8 2 8 := by first | exact o19 8 (by decide) | exact congrFun (f19 2 (by decide)) 8
    try have u19_4 : σ19 3 1 = σ8 3 1 := by first | exact o19 1 (by decide) | exact congrFun (f19 3 (by decide)) 1
    refine pe_aload_n d_E_undo_22 rfl ?_
    refine pe_iconst d_E_undo_23 ?_
    refine pe_putiT f_E_39 g_2_8 d_E_undo_24 rfl rfl 8 rfl hB (by first | exact hB _ _ | exact hB0 _ _ | exact hBt _ _ | exact ⟨by omega, by omega⟩) (fun σ24 hB e24 o24 f24 => ?_)
    try have u24_0 : σ24 2 5 = σ19 2 5 := by first | exact o24 5 (by decide) | exact congrFun (f24 2 (by decide)) 5
    try have u24_1 : σ24 2 6 = σ19 2 6 := by first | exact o24 6 (by decide) | exact congrFun (f24 2 (by decide)) 6
    try have u24_2 : σ24 2 7 = σ19 2 7 := by first | exact o24 7 (by decide) | exact congrFun (f24 2 (by decide)) 7
    try have u24_3 : σ24 2 8 = σ19 2 8 := by first | exact o24 8 (by decide) | exact congrFun (f24 2 (by decide)) 8
    try have u24_4 : σ24 3 1 = σ19 3 1 := by first | exact o24 1 (by decide) | exact congrFun (f24 3 (by decide)) 1
    refine pe_rv d_E_undo_27 ?_
    refine ⟨hB, (fun b hb => (f24 b (by simp at hb ⊢; try omega)).trans ((f19 b (by simp at hb ⊢; try omega)).trans ((f8 b (by simp at hb ⊢; try omega)).trans (rfl)))), ⟨pe_HI_to x8 ((f24 5 (by decide)).trans ((f19 5 (by decide)).trans (rfl))) ((f24 6 (by decide)).trans ((f19 6 (by decide)).trans (rfl))) ((f24 7 (by decide)).trans ((f19 7 (by decide)).trans (rfl))) ((f24 8 (by decide)).trans ((f19 8 (by decide)).trans (rfl))) ((f24 9 (by decide)).trans ((f19 9 (by decide)).trans (rfl))) (congrFun ((f24 3 (by decide)).trans ((f19 3 (by decide)).trans (rfl))) 1), pe_LI_to hL ((f24 12 (by decide)).trans ((f19 12 (by decide)).trans ((f8 12 (by decide)).trans (rfl)))) ((f24 13 (by decide)).trans ((f19 13 (by decide)).trans ((f8 13 (by decide)).trans (rfl)))) ((f24 14 (by decide)).trans ((f19 14 (by decide)).trans ((f8 14 (by decide)).trans (rfl)))), by omega, by omega, by omega, by omega⟩⟩
theorem t_E_moveByRow {σ : pe_H} {b : Int} (hB : pe_B σ) (hE : pe_EI σ) (hb : -1 ≤ b ∧ b ≤ 1) : pe_M m_E_moveByRow [pe_r 2, pe_i b] σ (pe_qv (fun σ' => pe_B σ' ∧ (∀ b, b ∉ [2, 12, 13, 14] → σ' b = σ b) ∧ pe_EI σ')) := by
  refine pe_in0 (lv := [some (pe_r 2), some (pe_i b), none]) ?_
  have hB0 := hB
  have hE0 := hE
  obtain ⟨hh, hL, hcu, hma, hcl, hco⟩ := hE
  have hlen := pe_ch_len hh.2.2
  have J48 : ∀ τ : pe_H, (pe_B τ ∧ (∀ b, b ∉ [2, 12, 13, 14] → τ b = σ b) ∧ pe_LI (τ 12) (τ 13) (τ 14) ∧ (τ 2 5 = σ 2 5 ∧ τ 2 6 = σ 2 6 ∧ τ 2 7 = σ 2 7 ∧ τ 2 8 = σ 2 8)) → pe_G m_E_moveByRow 48 [some (pe_r 2), some (pe_i b), none] [] τ (pe_qv (fun σ' => pe_B σ' ∧ (∀ b, b ∉ [2, 12, 13, 14] → σ' b = σ b) ∧ pe_EI σ')) := by
    intro τ hI
    obtain ⟨hB, hfr, hX⟩ := hI
    have v_3_1 : τ 3 1 = σ 3 1 := congrFun (hfr 3 (by decide)) 1
    obtain ⟨hLt, hX⟩ := hX
    have r12 := hLt.1 (τ 2 7)
    have hBt := hB
    refine pe_aload_n d_E_moveByRow_48 rfl ?_
    refine pe_getr f_E_28 d_E_moveByRow_49 rfl rfl ?_
    refine pe_aload_n d_E_moveByRow_52 rfl ?_
    refine pe_getr f_E_12 d_E_moveByRow_53 rfl rfl ?_
    refine pe_aload_n d_E_moveByRow_56 rfl ?_
    refine pe_getr f_E_28 d_E_moveByRow_57 rfl rfl ?_
    refine pe_getr f_E_152 d_E_moveByRow_60 rfl rfl ?_
    refine pe_aload_n d_E_moveByRow_63 rfl ?_
    refine pe_geti f_E_78 d_E_moveByRow_64 rfl rfl 7 rfl ?_
    refine pe_iald d_E_moveByRow_67 rfl (by omega) (by omega) ?_
    refine pe_iload_n d_E_moveByRow_68 rfl ?_
    refine pe_iadd d_E_moveByRow_69 ?_
    refine pe_aload_n d_E_moveByRow_70 rfl ?_
    refine pe_geti f_E_43 d_E_moveByRow_71 rfl rfl 9 rfl ?_
    refine pe_v3p d_E_moveByRow_74 c_E_155 i_L_placeIn s_L_placeIn rfl rfl (t_L_placeIn hB (by omega) (by first | exact hB _ _ | exact hB0 _ _ | exact hBt _ _ | exact ⟨by omega, by omega⟩) (by first | exact hB _ _ | exact hB0 _ _ | exact hBt _ _ | exact ⟨by omega, by omega⟩)) (fun z74 hz74 => ?_)
    refine pe_istore_n d_E_moveByRow_77 ?_
    refine pe_iload_n d_E_moveByRow_78 rfl ?_
    refine pe_iconst d_E_moveByRow_79 ?_
    refine pe_icmp_eq (t := 88) d_E_moveByRow_80 (by first | exact hB _ _ | exact hB0 _ _ | exact hBt _ _ | exact ⟨by omega, by omega⟩) (by first | exact hB _ _ | exact hB0 _ _ | exact hBt _ _ | exact ⟨by omega, by omega⟩) (fun h80 => ?_) (fun h80 => ?_)
    · skip
      refine pe_rv d_E_moveByRow_88 ?_
      refine ⟨hB, (fun b hb => hfr b (by simp at hb ⊢; try omega)), ⟨pe_HI_to hh (hfr 5 (by decide)) (hfr 6 (by decide)) (hfr 7 (by decide)) (hfr 8 (by decide)) (hfr 9 (by decide)) (congrFun (hfr 3 (by decide)) 1), pe_LI_to hLt (by first | exact rfl | exact f85 12 (by decide)) (by first | exact rfl | exact f85 13 (by decide)) (by first | exact rfl | exact f85 14 (by decide)), by omega, by omega, by omega, by omega⟩⟩
    · skip
      refine pe_aload_n d_E_moveByRow_83 rfl ?_
      refine pe_iload_n d_E_moveByRow_84 rfl ?_
      refine pe_putiT f_E_78 g_2_7 d_E_moveByRow_85 rfl rfl 7 rfl hB (by first | exact hB _ _ | exact hB0 _ _ | exact hBt _ _ | exact ⟨by omega, by omega⟩) (fun σ85 hB e85 o85 f85 => ?_)
      try have u85_0 : σ85 2 5 = τ 2 5 := by first | exact o85 5 (by decide) | exact congrFun (f85 2 (by decide)) 5
      try have u85_1 : σ85 2 6 = τ 2 6 := by first | exact o85 6 (by decide) | exact congrFun (f85 2 (by decide)) 6
      try have u85_2 : σ85 2 7 = τ 2 7 := by first | exact o85 7 (by decide) | exact congrFun (f85 2 (by decide)) 7
      try have u85_3 : σ85 2 8 = τ 2 8 := by first | exact o85 8 (by decide) | exact congrFun (f85 2 (by decide)) 8
      try have u85_4 : σ85 3 1 = τ 3 1 := by first | exact o85 1 (by decide) | exact congrFun (f85 3 (by decide)) 1
      refine pe_rv d_E_moveByRow_88 ?_
      refine ⟨hB, (fun b hb => (f85 b (by simp at hb ⊢; try omega)).trans (hfr b (by simp at hb ⊢; try omega))), ⟨pe_HI_to hh ((f85 5 (by decide)).trans (hfr 5 (by decide))) ((f85 6 (by decide)).trans (hfr 6 (by decide))) ((f85 7 (by decide)).trans (hfr 7 (by decide))) ((f85 8 (by decide)).trans (hfr 8 (by decide))) ((f85 9 (by decide)).trans (hfr 9 (by decide))) (congrFun ((f85 3 (by decide)).trans (hfr 3 (by decide))) 1), pe_LI_to hLt (by first | exact rfl | exact f85 12 (by decide)) (by first | exact rfl | exact f85 13 (by decide)) (by first | exact rfl | exact f85 14 (by decide)), by omega, by omega, by omega, by omega⟩⟩
  refine pe_aload_n d_E_moveByRow_0 rfl ?_
  refine pe_geti f_E_50 d_E_moveByRow_1 rfl rfl 6 rfl ?_
  refine pe_iconst d_E_moveByRow_4 ?_
  refine pe_icmp_ge (t := 9) d_E_moveByRow_5 (by first | exact hB _ _ | exact hB0 _ _ | exact hBt _ _ | exact ⟨by omega, by omega⟩) (by first | exact hB _ _ | exact hB0 _ _ | exact hBt _ _ | exact ⟨by omega, by omega⟩) (fun h5 => ?_) (fun h5 => ?_)
  · skip
    refine pe_aload_n d_E_moveByRow_9 rfl ?_
    refine pe_getr f_E_28 d_E_moveByRow_10 rfl rfl ?_
    refine pe_aload_n d_E_moveByRow_13 rfl ?_
    refine pe_getr f_E_12 d_E_moveByRow_14 rfl rfl ?_
    refine pe_aload_n d_E_moveByRow_17 rfl ?_
    refine pe_geti f_E_50 d_E_moveByRow_18 rfl rfl 6 rfl ?_
    refine pe_v2v d_E_moveByRow_21 c_E_145 i_L_lay s_L_lay rfl rfl (t_L_lay hB (by omega) hL (by omega)) (fun σ21 hz21 => ?_)
    obtain ⟨hB, f21, x21⟩ := hz21
    try have u21_0 : σ21 2 5 = σ 2 5 := by first | exact o21 5 (by decide) | exact congrFun (f21 2 (by decide)) 5
    try have u21_1 : σ21 2 6 = σ 2 6 := by first | exact o21 6 (by decide) | exact congrFun (f21 2 (by decide)) 6
    try have u21_2 : σ21 2 7 = σ 2 7 := by first | exact o21 7 (by decide) | exact congrFun (f21 2 (by decide)) 7
    try have u21_3 : σ21 2 8 = σ 2 8 := by first | exact o21 8 (by decide) | exact congrFun (f21 2 (by decide)) 8
    try have u21_4 : σ21 3 1 = σ 3 1 := by first | exact o21 1 (by decide) | exact congrFun (f21 3 (by decide)) 1
    refine pe_aload_n d_E_moveByRow_24 rfl ?_
    refine pe_geti f_E_43 d_E_moveByRow_25 rfl rfl 9 rfl ?_
    refine pe_iconst d_E_moveByRow_28 ?_
    refine pe_icmp_ne (t := 48) d_E_moveByRow_29 (by first | exact hB _ _ | exact hB0 _ _ | exact hBt _ _ | exact ⟨by omega, by omega⟩) (by first | exact hB _ _ | exact hB0 _ _ | exact hBt _ _ | exact ⟨by omega, by omega⟩) (fun h29 => ?_) (fun h29 => ?_)
    · skip
      exact J48 _ ⟨hB, (fun b hb => (f21 b (by simp at hb ⊢; try omega)).trans (rfl)), pe_LI_to x21 (rfl) (rfl) (rfl), by omega⟩
    · skip
      refine pe_aload_n d_E_moveByRow_32 rfl ?_
      refine pe_aload_n d_E_moveByRow_33 rfl ?_
      refine pe_getr f_E_28 d_E_moveByRow_34 rfl rfl ?_
      refine pe_getr f_E_149 d_E_moveByRow_37 rfl rfl ?_
      refine pe_aload_n d_E_moveByRow_40 rfl ?_
      refine pe_geti f_E_78 d_E_moveByRow_41 rfl rfl 7 rfl ?_
      refine pe_iald d_E_moveByRow_44 rfl (by omega) (by omega) ?_
      refine pe_putiT f_E_43 g_2_9 d_E_moveByRow_45 rfl rfl 9 rfl hB (by first | exact hB _ _ | exact hB0 _ _ | exact hBt _ _ | exact ⟨by omega, by omega⟩) (fun σ45 hB e45 o45 f45 => ?_)
      try have u45_0 : σ45 2 5 = σ21 2 5 := by first | exact o45 5 (by decide) | exact congrFun (f45 2 (by decide)) 5
      try have u45_1 : σ45 2 6 = σ21 2 6 := by first | exact o45 6 (by decide) | exact congrFun (f45 2 (by decide)) 6
      try have u45_2 : σ45 2 7 = σ21 2 7 := by first | exact o45 7 (by decide) | exact congrFun (f45 2 (by decide)) 7
      try have u45_3 : σ45 2 8 = σ21 2 8 := by first | exact o45 8 (by decide) | exact congrFun (f45 2 (by decide)) 8
      try have u45_4 : σ45 3 1 = σ21 3 1 := by first | exact o45 1 (by decide) | exact congrFun (f45 3 (by decide)) 1
      exact J48 _ ⟨hB, (fun b hb => (f45 b (by simp at hb ⊢; try omega)).trans ((f21 b (by simp at hb ⊢; try omega)).trans (rfl))), pe_LI_to x21 ((f45 12 (by decide)).trans (rfl)) ((f45 13 (by decide)).trans (rfl)) ((f45 14 (by decide)).trans (rfl)), by omega⟩
  · skip
    refine pe_rv d_E_moveByRow_8 ?_
    exact ⟨hB, (fun b hb => rfl), hE0⟩
theorem t_E_command {σ : pe_H} {k : Int} (hB : pe_B σ) (hE : pe_EI σ) (hk : pe_R k) : pe_M m_E_command [pe_r 2, pe_i k] σ (pe_qv (fun σ' => pe_B σ' ∧ (∀ b, b ∉ [2, 3, 4, 5, 6, 7, 8, 9, 10, 12, 13, 14, 15, 16] → σ' b = σ b) ∧ pe_EI σ')) := by
  refine pe_in0 (lv := [some (pe_r 2), some (pe_i k)]) ?_
  have hB0 := hB
  have hE0 := hE
  obtain ⟨hh, hL, hcu, hma, hcl, hco⟩ := hE
  have hlen := pe_ch_len hh.2.2
  refine pe_iload_n d_E_command_0 rfl ?_
  refine pe_lsw [(0, 310), (8, 190), (9, 156), (10, 174), (12, 329), (13, 165), (23, 337), (25, 344), (26, 359), (27, 321), (127, 190), (65538, 254), (65539, 236), (65540, 274), (65541, 292), (65542, 212), (65543, 366), (65544, 374)] (dt := 382) d_E_command_1 (by first | exact hB _ _ | exact hB0 _ _ | exact hBt _ _ | exact ⟨by omega, by omega⟩) ?_
  refine ⟨fun h1 => ?_, fun h1_0 => ?_⟩
  · show pe_G _ _ _ _ _ _
    refine pe_aload_n d_E_command_310 rfl ?_
    refine pe_aload_n d_E_command_311 rfl ?_
    refine pe_geti f_E_78 d_E_command_312 rfl rfl 7 rfl ?_
    refine pe_putiT f_E_39 g_2_8 d_E_command_315 rfl rfl 8 rfl hB (by first | exact hB _ _ | exact hB0 _ _ | exact hBt _ _ | exact ⟨by omega, by omega⟩) (fun σ315 hB e315 o315 f315 => ?_)
    try have u315_0 : σ315 2 5 = σ 2 5 := by first | exact o315 5 (by decide) | exact congrFun (f315 2 (by decide)) 5
    try have u315_1 : σ315 2 6 = σ 2 6 := by first | exact o315 6 (by decide) | exact congrFun (f315 2 (by decide)) 6
    try have u315_2 : σ315 2 7 = σ 2 7 := by first | exact o315 7 (by decide) | exact congrFun (f315 2 (by decide)) 7
    try have u315_3 : σ315 2 8 = σ 2 8 := by first | exact o315 8 (by decide) | exact congrFun (f315 2 (by decide)) 8
    try have u315_4 : σ315 3 1 = σ 3 1 := by first | exact o315 1 (by decide) | exact congrFun (f315 3 (by decide)) 1
    refine pe_goto (t := 382) d_E_command_318 ?_
    refine pe_rv d_E_command_382 ?_
    first | exact ⟨hB, (fun b hb => (f315 b (by simp at hb ⊢; try omega)).trans (rfl)), xx⟩ | exact ⟨hB, (fun b hb => (f315 b (by simp at hb ⊢; try omega)).trans (rfl)), hE0⟩ | exact ⟨hB, (fun b hb => (f315 b (by simp at hb ⊢; try omega)).trans (rfl)), ⟨pe_HI_to hh ((f315 5 (by decide)).trans (rfl)) ((f315 6 (by decide)).trans (rfl)) ((f315 7 (by decide)).trans (rfl)) ((f315 8 (by decide)).trans (rfl)) ((f315 9 (by decide)).trans (rfl)) (congrFun ((f315 3 (by decide)).trans (rfl)) 1), pe_LI_to hL ((f315 12 (by decide)).trans (rfl)) ((f315 13 (by decide)).trans (rfl)) ((f315 14 (by decide)).trans (rfl)), by omega, by omega, by omega, by omega⟩⟩
  refine ⟨fun h1 => ?_, fun h1_1 => ?_⟩
  · show pe_G _ _ _ _ _ _
    refine pe_aload_n d_E_command_190 rfl ?_
    refine pe_aload_n d_E_command_191 rfl ?_
    refine pe_getr f_E_12 d_E_command_192 rfl rfl ?_
    refine pe_aload_n d_E_command_195 rfl ?_
    refine pe_geti f_E_78 d_E_command_196 rfl rfl 7 rfl ?_
    refine pe_v1p d_E_command_199 c_E_86 i_T_beginningAhead s_T_beginningAhead rfl rfl (t_T_beginningAhead hB (by omega) (by omega)) (fun z199 hz199 => ?_)
    refine pe_aload_n d_E_command_202 rfl ?_
    refine pe_geti f_E_78 d_E_command_203 rfl rfl 7 rfl ?_
    refine pe_v2v d_E_command_206 c_E_89 i_E_removeBetween s_E_removeBetween rfl rfl (t_E_removeBetween hB hE0 (by omega) (by omega)) (fun σ206 hz206 => ?_)
    obtain ⟨hB, f206, x206⟩ := hz206
    try have u206_0 : σ206 2 5 = σ 2 5 := by first | exact o206 5 (by decide) | exact congrFun (f206 2 (by decide)) 5
    try have u206_1 : σ206 2 6 = σ 2 6 := by first | exact o206 6 (by decide) | exact congrFun (f206 2 (by decide)) 6
    try have u206_2 : σ206 2 7 = σ 2 7 := by first | exact o206 7 (by decide) | exact congrFun (f206 2 (by decide)) 7
    try have u206_3 : σ206 2 8 = σ 2 8 := by first | exact o206 8 (by decide) | exact congrFun (f206 2 (by decide)) 8
    try have u206_4 : σ206 3 1 = σ 3 1 := by first | exact o206 1 (by decide) | exact congrFun (f206 3 (by decide)) 1
    have xx := x206
    refine pe_goto (t := 382) d_E_command_209 ?_
    refine pe_rv d_E_command_382 ?_
    first | exact ⟨hB, (fun b hb => (f206 b (by simp at hb ⊢; try omega)).trans (rfl)), xx⟩ | exact ⟨hB, (fun b hb => (f206 b (by simp at hb ⊢; try omega)).trans (rfl)), hE0⟩ | exact ⟨hB, (fun b hb => (f206 b (by simp at hb ⊢; try omega)).trans (rfl)), ⟨pe_HI_to hh ((f206 5 (by decide)).trans (rfl)) ((f206 6 (by decide)).trans (rfl)) ((f206 7 (by decide)).trans (rfl)) ((f206 8 (by decide)).trans (rfl)) ((f206 9 (by decide)).trans (rfl)) (congrFun ((f206 3 (by decide)).trans (rfl)) 1), pe_LI_to hL ((f206 12 (by decide)).trans (rfl)) ((f206 13 (by decide)).trans (rfl)) ((f206 14 (by decide)).trans (rfl)), by omega, by omega, by omega, by omega⟩⟩
  refine ⟨fun h1 => ?_, fun h1_2 => ?_⟩
  · show pe_G _ _ _ _ _ _
    refine pe_aload_n d_E_command_156 rfl ?_
    refine pe_bipush d_E_command_157 ?_
    refine pe_v1v d_E_command_159 c_E_72 i_E_insertOne s_E_insertOne rfl rfl (t_E_insertOne hB hE0 (by first | exact hB _ _ | exact hB0 _ _ | exact hBt _ _ | exact ⟨by omega, by omega⟩)) (fun σ159 hz159 => ?_)
    obtain ⟨hB, f159, x159⟩ := hz159
    try have u159_0 : σ159 2 5 = σ 2 5 := by first | exact o159 5 (by decide) | exact congrFun (f159 2 (by decide)) 5
    try have u159_1 : σ159 2 6 = σ 2 6 := by first | exact o159 6 (by decide) | exact congrFun (f159 2 (by decide)) 6
    try have u159_2 : σ159 2 7 = σ 2 7 := by first | exact o159 7 (by decide) | exact congrFun (f159 2 (by decide)) 7
    try have u159_3 : σ159 2 8 = σ 2 8 := by first | exact o159 8 (by decide) | exact congrFun (f159 2 (by decide)) 8
    try have u159_4 : σ159 3 1 = σ 3 1 := by first | exact o159 1 (by decide) | exact congrFun (f159 3 (by decide)) 1
    have xx := x159
    refine pe_goto (t := 382) d_E_command_162 ?_
    refine pe_rv d_E_command_382 ?_
    first | exact ⟨hB, (fun b hb => (f159 b (by simp at hb ⊢; try omega)).trans (rfl)), xx⟩ | exact ⟨hB, (fun b hb => (f159 b (by simp at hb ⊢; try omega)).trans (rfl)), hE0⟩ | exact ⟨hB, (fun b hb => (f159 b (by simp at hb ⊢; try omega)).trans (rfl)), ⟨pe_HI_to hh ((f159 5 (by decide)).trans (rfl)) ((f159 6 (by decide)).trans (rfl)) ((f159 7 (by decide)).trans (rfl)) ((f159 8 (by decide)).trans (rfl)) ((f159 9 (by decide)).trans (rfl)) (congrFun ((f159 3 (by decide)).trans (rfl)) 1), pe_LI_to hL ((f159 12 (by decide)).trans (rfl)) ((f159 13 (by decide)).trans (rfl)) ((f159 14 (by decide)).trans (rfl)), by omega, by omega, by omega, by omega⟩⟩
  refine ⟨fun h1 => ?_, fun h1_3 => ?_⟩
  · show pe_G _ _ _ _ _ _
    refine pe_aload_n d_E_command_174 rfl ?_
    refine pe_geti f_E_55 d_E_command_175 rfl rfl 10 rfl ?_
    refine pe_if_eq (t := 382) d_E_command_178 (by first | exact hB _ _ | exact hB0 _ _ | exact hBt _ _ | exact ⟨by omega, by omega⟩) (fun h178 => ?_) (fun h178 => ?_)
    · skip
      refine pe_rv d_E_command_382 ?_
      first | exact ⟨hB, (fun b hb => rfl), xx⟩ | exact ⟨hB, (fun b hb => rfl), hE0⟩ | exact ⟨hB, (fun b hb => rfl), ⟨pe_HI_to hh (rfl) (rfl) (rfl) (rfl) (rfl) (congrFun (rfl) 1), pe_LI_to hL (rfl) (rfl) (rfl), by omega, by omega, by omega, by omega⟩⟩
    · skip
      refine pe_aload_n d_E_command_181 rfl ?_
      refine pe_bipush d_E_command_182 ?_
      refine pe_v1v d_E_command_184 c_E_72 i_E_insertOne s_E_insertOne rfl rfl (t_E_insertOne hB hE0 (by first | exact hB _ _ | exact hB0 _ _ | exact hBt _ _ | exact ⟨by omega, by omega⟩)) (fun σ184 hz184 => ?_)
      obtain ⟨hB, f184, x184⟩ := hz184
      try have u184_0 : σ184 2 5 = σ 2 5 := by first | exact o184 5 (by decide) | exact congrFun (f184 2 (by decide)) 5
      try have u184_1 : σ184 2 6 = σ 2 6 := by first | exact o184 6 (by decide) | exact congrFun (f184 2 (by decide)) 6
      try have u184_2 : σ184 2 7 = σ 2 7 := by first | exact o184 7 (by decide) | exact congrFun (f184 2 (by decide)) 7
      try have u184_3 : σ184 2 8 = σ 2 8 := by first | exact o184 8 (by decide) | exact congrFun (f184 2 (by decide)) 8
      try have u184_4 : σ184 3 1 = σ 3 1 := by first | exact o184 1 (by decide) | exact congrFun (f184 3 (by decide)) 1
      have xx := x184
      refine pe_goto (t := 382) d_E_command_187 ?_
      refine pe_rv d_E_command_382 ?_
      first | exact ⟨hB, (fun b hb => (f184 b (by simp at hb ⊢; try omega)).trans (rfl)), xx⟩ | exact ⟨hB, (fun b hb => (f184 b (by simp at hb ⊢; try omega)).trans (rfl)), hE0⟩ | exact ⟨hB, (fun b hb => (f184 b (by simp at hb ⊢; try omega)).trans (rfl)), ⟨pe_HI_to hh ((f184 5 (by decide)).trans (rfl)) ((f184 6 (by decide)).trans (rfl)) ((f184 7 (by decide)).trans (rfl)) ((f184 8 (by decide)).trans (rfl)) ((f184 9 (by decide)).trans (rfl)) (congrFun ((f184 3 (by decide)).trans (rfl)) 1), pe_LI_to hL ((f184 12 (by decide)).trans (rfl)) ((f184 13 (by decide)).trans (rfl)) ((f184 14 (by decide)).trans (rfl)), by omega, by omega, by omega, by omega⟩⟩
  refine ⟨fun h1 => ?_, fun h1_4 => ?_⟩
  · show pe_G _ _ _ _ _ _
    refine pe_aload_n d_E_command_329 rfl ?_
    refine pe_iconst d_E_command_330 ?_
    refine pe_putzT f_E_46 g_2_11 d_E_command_331 rfl rfl (by first | exact Or.inl rfl | exact Or.inr rfl | omega) 11 rfl hB (fun σ331 hB e331 o331 f331 => ?_)
    try have u331_0 : σ331 2 5 = σ 2 5 := by first | exact o331 5 (by decide) | exact congrFun (f331 2 (by decide)) 5
    try have u331_1 : σ331 2 6 = σ 2 6 := by first | exact o331 6 (by decide) | exact congrFun (f331 2 (by decide)) 6
    try have u331_2 : σ331 2 7 = σ 2 7 := by first | exact o331 7 (by decide) | exact congrFun (f331 2 (by decide)) 7
    try have u331_3 : σ331 2 8 = σ 2 8 := by first | exact o331 8 (by decide) | exact congrFun (f331 2 (by decide)) 8
    try have u331_4 : σ331 3 1 = σ 3 1 := by first | exact o331 1 (by decide) | exact congrFun (f331 3 (by decide)) 1
    refine pe_goto (t := 382) d_E_command_334 ?_
    refine pe_rv d_E_command_382 ?_
    first | exact ⟨hB, (fun b hb => (f331 b (by simp at hb ⊢; try omega)).trans (rfl)), xx⟩ | exact ⟨hB, (fun b hb => (f331 b (by simp at hb ⊢; try omega)).trans (rfl)), hE0⟩ | exact ⟨hB, (fun b hb => (f331 b (by simp at hb ⊢; try omega)).trans (rfl)), ⟨pe_HI_to hh ((f331 5 (by decide)).trans (rfl)) ((f331 6 (by decide)).trans (rfl)) ((f331 7 (by decide)).trans (rfl)) ((f331 8 (by decide)).trans (rfl)) ((f331 9 (by decide)).trans (rfl)) (congrFun ((f331 3 (by decide)).trans (rfl)) 1), pe_LI_to hL ((f331 12 (by decide)).trans (rfl)) ((f331 13 (by decide)).trans (rfl)) ((f331 14 (by decide)).trans (rfl)), by omega, by omega, by omega, by omega⟩⟩
  refine ⟨fun h1 => ?_, fun h1_5 => ?_⟩
  · show pe_G _ _ _ _ _ _
    refine pe_aload_n d_E_command_165 rfl ?_
    refine pe_bipush d_E_command_166 ?_
    refine pe_v1v d_E_command_168 c_E_72 i_E_insertOne s_E_insertOne rfl rfl (t_E_insertOne hB hE0 (by first | exact hB _ _ | exact hB0 _ _ | exact hBt _ _ | exact ⟨by omega, by omega⟩)) (fun σ168 hz168 => ?_)
    obtain ⟨hB, f168, x168⟩ := hz168
    try have u168_0 : σ168 2 5 = σ 2 5 := by first | exact o168 5 (by decide) | exact congrFun (f168 2 (by decide)) 5
    try have u168_1 : σ168 2 6 = σ 2 6 := by first | exact o168 6 (by decide) | exact congrFun (f168 2 (by decide)) 6
    try have u168_2 : σ168 2 7 = σ 2 7 := by first | exact o168 7 (by decide) | exact congrFun (f168 2 (by decide)) 7
    try have u168_3 : σ168 2 8 = σ 2 8 := by first | exact o168 8 (by decide) | exact congrFun (f168 2 (by decide)) 8
    try have u168_4 : σ168 3 1 = σ 3 1 := by first | exact o168 1 (by decide) | exact congrFun (f168 3 (by decide)) 1
    have xx := x168
    refine pe_goto (t := 382) d_E_command_171 ?_
    refine pe_rv d_E_command_382 ?_
    first | exact ⟨hB, (fun b hb => (f168 b (by simp at hb ⊢; try omega)).trans (rfl)), xx⟩ | exact ⟨hB, (fun b hb => (f168 b (by simp at hb ⊢; try omega)).trans (rfl)), hE0⟩ | exact ⟨hB, (fun b hb => (f168 b (by simp at hb ⊢; try omega)).trans (rfl)), ⟨pe_HI_to hh ((f168 5 (by decide)).trans (rfl)) ((f168 6 (by decide)).trans (rfl)) ((f168 7 (by decide)).trans (rfl)) ((f168 8 (by decide)).trans (rfl)) ((f168 9 (by decide)).trans (rfl)) (congrFun ((f168 3 (by decide)).trans (rfl)) 1), pe_LI_to hL ((f168 12 (by decide)).trans (rfl)) ((f168 13 (by decide)).trans (rfl)) ((f168 14 (by decide)).trans (rfl)), by omega, by omega, by omega, by omega⟩⟩
  refine ⟨fun h1 => ?_, fun h1_6 => ?_⟩
  · show pe_G _ _ _ _ _ _
    refine pe_aload_n d_E_command_337 rfl ?_
    refine pe_v0v d_E_command_338 c_E_99 i_E_cut s_E_cut rfl rfl (t_E_cut hB hE0) (fun σ338 hz338 => ?_)
    obtain ⟨hB, f338, x338⟩ := hz338
    try have u338_0 : σ338 2 5 = σ 2 5 := by first | exact o338 5 (by decide) | exact congrFun (f338 2 (by decide)) 5
    try have u338_1 : σ338 2 6 = σ 2 6 := by first | exact o338 6 (by decide) | exact congrFun (f338 2 (by decide)) 6
    try have u338_2 : σ338 2 7 = σ 2 7 := by first | exact o338 7 (by decide) | exact congrFun (f338 2 (by decide)) 7
    try have u338_3 : σ338 2 8 = σ 2 8 := by first | exact o338 8 (by decide) | exact congrFun (f338 2 (by decide)) 8
    try have u338_4 : σ338 3 1 = σ 3 1 := by first | exact o338 1 (by decide) | exact congrFun (f338 3 (by decide)) 1
    have xx := x338
    refine pe_goto (t := 382) d_E_command_341 ?_
    refine pe_rv d_E_command_382 ?_
    first | exact ⟨hB, (fun b hb => (f338 b (by simp at hb ⊢; try omega)).trans (rfl)), xx⟩ | exact ⟨hB, (fun b hb => (f338 b (by simp at hb ⊢; try omega)).trans (rfl)), hE0⟩ | exact ⟨hB, (fun b hb => (f338 b (by simp at hb ⊢; try omega)).trans (rfl)), ⟨pe_HI_to hh ((f338 5 (by decide)).trans (rfl)) ((f338 6 (by decide)).trans (rfl)) ((f338 7 (by decide)).trans (rfl)) ((f338 8 (by decide)).trans (rfl)) ((f338 9 (by decide)).trans (rfl)) (congrFun ((f338 3 (by decide)).trans (rfl)) 1), pe_LI_to hL ((f338 12 (by decide)).trans (rfl)) ((f338 13 (by decide)).trans (rfl)) ((f338 14 (by decide)).trans (rfl)), by omega, by omega, by omega, by omega⟩⟩
  refine ⟨fun h1 => ?_, fun h1_7 => ?_⟩
  · show pe_G _ _ _ _ _ _
    refine pe_aload_n d_E_command_344 rfl ?_
    refine pe_aload_n d_E_command_345 rfl ?_
    refine pe_getr f_E_32 d_E_command_346 rfl rfl ?_
    refine pe_aload_n d_E_command_349 rfl ?_
    refine pe_geti f_E_102 d_E_command_350 rfl rfl 5 rfl ?_
    refine pe_v2v d_E_command_353 c_E_105 i_E_insert s_E_insert rfl rfl (t_E_insert_15 hB hE0 (by omega)) (fun σ353 hz353 => ?_)
    obtain ⟨hB, f353, x353⟩ := hz353
    try have u353_0 : σ353 2 5 = σ 2 5 := by first | exact o353 5 (by decide) | exact congrFun (f353 2 (by decide)) 5
    try have u353_1 : σ353 2 6 = σ 2 6 := by first | exact o353 6 (by decide) | exact congrFun (f353 2 (by decide)) 6
    try have u353_2 : σ353 2 7 = σ 2 7 := by first | exact o353 7 (by decide) | exact congrFun (f353 2 (by decide)) 7
    try have u353_3 : σ353 2 8 = σ 2 8 := by first | exact o353 8 (by decide) | exact congrFun (f353 2 (by decide)) 8
    try have u353_4 : σ353 3 1 = σ 3 1 := by first | exact o353 1 (by decide) | exact congrFun (f353 3 (by decide)) 1
    have xx := x353
    refine pe_goto (t := 382) d_E_command_356 ?_
    refine pe_rv d_E_command_382 ?_
    first | exact ⟨hB, (fun b hb => (f353 b (by simp at hb ⊢; try omega)).trans (rfl)), xx⟩ | exact ⟨hB, (fun b hb => (f353 b (by simp at hb ⊢; try omega)).trans (rfl)), hE0⟩ | exact ⟨hB, (fun b hb => (f353 b (by simp at hb ⊢; try omega)).trans (rfl)), ⟨pe_HI_to hh ((f353 5 (by decide)).trans (rfl)) ((f353 6 (by decide)).trans (rfl)) ((f353 7 (by decide)).trans (rfl)) ((f353 8 (by decide)).trans (rfl)) ((f353 9 (by decide)).trans (rfl)) (congrFun ((f353 3 (by decide)).trans (rfl)) 1), pe_LI_to hL ((f353 12 (by decide)).trans (rfl)) ((f353 13 (by decide)).trans (rfl)) ((f353 14 (by decide)).trans (rfl)), by omega, by omega, by omega, by omega⟩⟩
  refine ⟨fun h1 => ?_, fun h1_8 => ?_⟩
  · show pe_G _ _ _ _ _ _
    refine pe_aload_n d_E_command_359 rfl ?_
    refine pe_v0v d_E_command_360 c_E_109 i_E_undo s_E_undo rfl rfl (t_E_undo hB hE0) (fun σ360 hz360 => ?_)
    obtain ⟨hB, f360, x360⟩ := hz360
    try have u360_0 : σ360 2 5 = σ 2 5 := by first | exact o360 5 (by decide) | exact congrFun (f360 2 (by decide)) 5
    try have u360_1 : σ360 2 6 = σ 2 6 := by first | exact o360 6 (by decide) | exact congrFun (f360 2 (by decide)) 6
    try have u360_2 : σ360 2 7 = σ 2 7 := by first | exact o360 7 (by decide) | exact congrFun (f360 2 (by decide)) 7
    try have u360_3 : σ360 2 8 = σ 2 8 := by first | exact o360 8 (by decide) | exact congrFun (f360 2 (by decide)) 8
    try have u360_4 : σ360 3 1 = σ 3 1 := by first | exact o360 1 (by decide) | exact congrFun (f360 3 (by decide)) 1
    have xx := x360
    refine pe_goto (t := 382) d_E_command_363 ?_
    refine pe_rv d_E_command_382 ?_
    first | exact ⟨hB, (fun b hb => (f360 b (by simp at hb ⊢; try omega)).trans (rfl)), xx⟩ | exact ⟨hB, (fun b hb => (f360 b (by simp at hb ⊢; try omega)).trans (rfl)), hE0⟩ | exact ⟨hB, (fun b hb => (f360 b (by simp at hb ⊢; try omega)).trans (rfl)), ⟨pe_HI_to hh ((f360 5 (by decide)).trans (rfl)) ((f360 6 (by decide)).trans (rfl)) ((f360 7 (by decide)).trans (rfl)) ((f360 8 (by decide)).trans (rfl)) ((f360 9 (by decide)).trans (rfl)) (congrFun ((f360 3 (by decide)).trans (rfl)) 1), pe_LI_to hL ((f360 12 (by decide)).trans (rfl)) ((f360 13 (by decide)).trans (rfl)) ((f360 14 (by decide)).trans (rfl)), by omega, by omega, by omega, by omega⟩⟩
  refine ⟨fun h1 => ?_, fun h1_9 => ?_⟩
  · show pe_G _ _ _ _ _ _
    refine pe_aload_n d_E_command_321 rfl ?_
    refine pe_iconst d_E_command_322 ?_
    refine pe_putiT f_E_39 g_2_8 d_E_command_323 rfl rfl 8 rfl hB (by first | exact hB _ _ | exact hB0 _ _ | exact hBt _ _ | exact ⟨by omega, by omega⟩) (fun σ323 hB e323 o323 f323 => ?_)
    try have u323_0 : σ323 2 5 = σ 2 5 := by first | exact o323 5 (by decide) | exact congrFun (f323 2 (by decide)) 5
    try have u323_1 : σ323 2 6 = σ 2 6 := by first | exact o323 6 (by decide) | exact congrFun (f323 2 (by decide)) 6
    try have u323_2 : σ323 2 7 = σ 2 7 := by first | exact o323 7 (by decide) | exact congrFun (f323 2 (by decide)) 7
    try have u323_3 : σ323 2 8 = σ 2 8 := by first | exact o323 8 (by decide) | exact congrFun (f323 2 (by decide)) 8
    try have u323_4 : σ323 3 1 = σ 3 1 := by first | exact o323 1 (by decide) | exact congrFun (f323 3 (by decide)) 1
    refine pe_goto (t := 382) d_E_command_326 ?_
    refine pe_rv d_E_command_382 ?_
    first | exact ⟨hB, (fun b hb => (f323 b (by simp at hb ⊢; try omega)).trans (rfl)), xx⟩ | exact ⟨hB, (fun b hb => (f323 b (by simp at hb ⊢; try omega)).trans (rfl)), hE0⟩ | exact ⟨hB, (fun b hb => (f323 b (by simp at hb ⊢; try omega)).trans (rfl)), ⟨pe_HI_to hh ((f323 5 (by decide)).trans (rfl)) ((f323 6 (by decide)).trans (rfl)) ((f323 7 (by decide)).trans (rfl)) ((f323 8 (by decide)).trans (rfl)) ((f323 9 (by decide)).trans (rfl)) (congrFun ((f323 3 (by decide)).trans (rfl)) 1), pe_LI_to hL ((f323 12 (by decide)).trans (rfl)) ((f323 13 (by decide)).trans (rfl)) ((f323 14 (by decide)).trans (rfl)), by omega, by omega, by omega, by omega⟩⟩
  refine ⟨fun h1 => ?_, fun h1_10 => ?_⟩
  · show pe_G _ _ _ _ _ _
    refine pe_aload_n d_E_command_190 rfl ?_
    refine pe_aload_n d_E_command_191 rfl ?_
    refine pe_getr f_E_12 d_E_command_192 rfl rfl ?_
    refine pe_aload_n d_E_command_195 rfl ?_
    refine pe_geti f_E_78 d_E_command_196 rfl rfl 7 rfl ?_
    refine pe_v1p d_E_command_199 c_E_86 i_T_beginningAhead s_T_beginningAhead rfl rfl (t_T_beginningAhead hB (by omega) (by omega)) (fun z199 hz199 => ?_)
    refine pe_aload_n d_E_command_202 rfl ?_
    refine pe_geti f_E_78 d_E_command_203 rfl rfl 7 rfl ?_
    refine pe_v2v d_E_command_206 c_E_89 i_E_removeBetween s_E_removeBetween rfl rfl (t_E_removeBetween hB hE0 (by omega) (by omega)) (fun σ206 hz206 => ?_)
    obtain ⟨hB, f206, x206⟩ := hz206
    try have u206_0 : σ206 2 5 = σ 2 5 := by first | exact o206 5 (by decide) | exact congrFun (f206 2 (by decide)) 5
    try have u206_1 : σ206 2 6 = σ 2 6 := by first | exact o206 6 (by decide) | exact congrFun (f206 2 (by decide)) 6
    try have u206_2 : σ206 2 7 = σ 2 7 := by first | exact o206 7 (by decide) | exact congrFun (f206 2 (by decide)) 7
    try have u206_3 : σ206 2 8 = σ 2 8 := by first | exact o206 8 (by decide) | exact congrFun (f206 2 (by decide)) 8
    try have u206_4 : σ206 3 1 = σ 3 1 := by first | exact o206 1 (by decide) | exact congrFun (f206 3 (by decide)) 1
    have xx := x206
    refine pe_goto (t := 382) d_E_command_209 ?_
    refine pe_rv d_E_command_382 ?_
    first | exact ⟨hB, (fun b hb => (f206 b (by simp at hb ⊢; try omega)).trans (rfl)), xx⟩ | exact ⟨hB, (fun b hb => (f206 b (by simp at hb ⊢; try omega)).trans (rfl)), hE0⟩ | exact ⟨hB, (fun b hb => (f206 b (by simp at hb ⊢; try omega)).trans (rfl)), ⟨pe_HI_to hh ((f206 5 (by decide)).trans (rfl)) ((f206 6 (by decide)).trans (rfl)) ((f206 7 (by decide)).trans (rfl)) ((f206 8 (by decide)).trans (rfl)) ((f206 9 (by decide)).trans (rfl)) (congrFun ((f206 3 (by decide)).trans (rfl)) 1), pe_LI_to hL ((f206 12 (by decide)).trans (rfl)) ((f206 13 (by decide)).trans (rfl)) ((f206 14 (by decide)).trans (rfl)), by omega, by omega, by omega, by omega⟩⟩
  refine ⟨fun h1 => ?_, fun h1_11 => ?_⟩
  · show pe_G _ _ _ _ _ _
    refine pe_aload_n d_E_command_254 rfl ?_
    refine pe_aload_n d_E_command_255 rfl ?_
    refine pe_getr f_E_12 d_E_command_256 rfl rfl ?_
    refine pe_aload_n d_E_command_259 rfl ?_
    refine pe_geti f_E_78 d_E_command_260 rfl rfl 7 rfl ?_
    refine pe_iconst d_E_command_263 ?_
    refine pe_iadd d_E_command_264 ?_
    refine pe_v1p d_E_command_265 c_E_81 i_T_beginningFrom s_T_beginningFrom rfl rfl (t_T_beginningFrom hB (by omega) (by omega)) (fun z265 hz265 => ?_)
    refine pe_putiT f_E_78 g_2_7 d_E_command_268 rfl rfl 7 rfl hB (by first | exact hB _ _ | exact hB0 _ _ | exact hBt _ _ | exact ⟨by omega, by omega⟩) (fun σ268 hB e268 o268 f268 => ?_)
    try have u268_0 : σ268 2 5 = σ 2 5 := by first | exact o268 5 (by decide) | exact congrFun (f268 2 (by decide)) 5
    try have u268_1 : σ268 2 6 = σ 2 6 := by first | exact o268 6 (by decide) | exact congrFun (f268 2 (by decide)) 6
    try have u268_2 : σ268 2 7 = σ 2 7 := by first | exact o268 7 (by decide) | exact congrFun (f268 2 (by decide)) 7
    try have u268_3 : σ268 2 8 = σ 2 8 := by first | exact o268 8 (by decide) | exact congrFun (f268 2 (by decide)) 8
    try have u268_4 : σ268 3 1 = σ 3 1 := by first | exact o268 1 (by decide) | exact congrFun (f268 3 (by decide)) 1
    refine pe_goto (t := 382) d_E_command_271 ?_
    refine pe_rv d_E_command_382 ?_
    first | exact ⟨hB, (fun b hb => (f268 b (by simp at hb ⊢; try omega)).trans (rfl)), xx⟩ | exact ⟨hB, (fun b hb => (f268 b (by simp at hb ⊢; try omega)).trans (rfl)), hE0⟩ | exact ⟨hB, (fun b hb => (f268 b (by simp at hb ⊢; try omega)).trans (rfl)), ⟨pe_HI_to hh ((f268 5 (by decide)).trans (rfl)) ((f268 6 (by decide)).trans (rfl)) ((f268 7 (by decide)).trans (rfl)) ((f268 8 (by decide)).trans (rfl)) ((f268 9 (by decide)).trans (rfl)) (congrFun ((f268 3 (by decide)).trans (rfl)) 1), pe_LI_to hL ((f268 12 (by decide)).trans (rfl)) ((f268 13 (by decide)).trans (rfl)) ((f268 14 (by decide)).trans (rfl)), by omega, by omega, by omega, by omega⟩⟩
  refine ⟨fun h1 => ?_, fun h1_12 => ?_⟩
  · show pe_G _ _ _ _ _ _
    refine pe_aload_n d_E_command_236 rfl ?_
    refine pe_aload_n d_E_command_237 rfl ?_
    refine pe_getr f_E_12 d_E_command_238 rfl rfl ?_
    refine pe_aload_n d_E_command_241 rfl ?_
    refine pe_geti f_E_78 d_E_command_242 rfl rfl 7 rfl ?_
    refine pe_v1p d_E_command_245 c_E_86 i_T_beginningAhead s_T_beginningAhead rfl rfl (t_T_beginningAhead hB (by omega) (by omega)) (fun z245 hz245 => ?_)
    refine pe_putiT f_E_78 g_2_7 d_E_command_248 rfl rfl 7 rfl hB (by first | exact hB _ _ | exact hB0 _ _ | exact hBt _ _ | exact ⟨by omega, by omega⟩) (fun σ248 hB e248 o248 f248 => ?_)
    try have u248_0 : σ248 2 5 = σ 2 5 := by first | exact o248 5 (by decide) | exact congrFun (f248 2 (by decide)) 5
    try have u248_1 : σ248 2 6 = σ 2 6 := by first | exact o248 6 (by decide) | exact congrFun (f248 2 (by decide)) 6
    try have u248_2 : σ248 2 7 = σ 2 7 := by first | exact o248 7 (by decide) | exact congrFun (f248 2 (by decide)) 7
    try have u248_3 : σ248 2 8 = σ 2 8 := by first | exact o248 8 (by decide) | exact congrFun (f248 2 (by decide)) 8
    try have u248_4 : σ248 3 1 = σ 3 1 := by first | exact o248 1 (by decide) | exact congrFun (f248 3 (by decide)) 1
    refine pe_goto (t := 382) d_E_command_251 ?_
    refine pe_rv d_E_command_382 ?_
    first | exact ⟨hB, (fun b hb => (f248 b (by simp at hb ⊢; try omega)).trans (rfl)), xx⟩ | exact ⟨hB, (fun b hb => (f248 b (by simp at hb ⊢; try omega)).trans (rfl)), hE0⟩ | exact ⟨hB, (fun b hb => (f248 b (by simp at hb ⊢; try omega)).trans (rfl)), ⟨pe_HI_to hh ((f248 5 (by decide)).trans (rfl)) ((f248 6 (by decide)).trans (rfl)) ((f248 7 (by decide)).trans (rfl)) ((f248 8 (by decide)).trans (rfl)) ((f248 9 (by decide)).trans (rfl)) (congrFun ((f248 3 (by decide)).trans (rfl)) 1), pe_LI_to hL ((f248 12 (by decide)).trans (rfl)) ((f248 13 (by decide)).trans (rfl)) ((f248 14 (by decide)).trans (rfl)), by omega, by omega, by omega, by omega⟩⟩
  refine ⟨fun h1 => ?_, fun h1_13 => ?_⟩
  · show pe_G _ _ _ _ _ _
    refine pe_aload_n d_E_command_274 rfl ?_
    refine pe_aload_n d_E_command_275 rfl ?_
    refine pe_getr f_E_12 d_E_command_276 rfl rfl ?_
    refine pe_aload_n d_E_command_279 rfl ?_
    refine pe_geti f_E_78 d_E_command_280 rfl rfl 7 rfl ?_
    refine pe_v1p d_E_command_283 c_E_93 i_T_lineBeginning s_T_lineBeginning rfl rfl (t_T_lineBeginning hB (by omega) (by omega)) (fun z283 hz283 => ?_)
    refine pe_putiT f_E_78 g_2_7 d_E_command_286 rfl rfl 7 rfl hB (by first | exact hB _ _ | exact hB0 _ _ | exact hBt _ _ | exact ⟨by omega, by omega⟩) (fun σ286 hB e286 o286 f286 => ?_)
    try have u286_0 : σ286 2 5 = σ 2 5 := by first | exact o286 5 (by decide) | exact congrFun (f286 2 (by decide)) 5
    try have u286_1 : σ286 2 6 = σ 2 6 := by first | exact o286 6 (by decide) | exact congrFun (f286 2 (by decide)) 6
    try have u286_2 : σ286 2 7 = σ 2 7 := by first | exact o286 7 (by decide) | exact congrFun (f286 2 (by decide)) 7
    try have u286_3 : σ286 2 8 = σ 2 8 := by first | exact o286 8 (by decide) | exact congrFun (f286 2 (by decide)) 8
    try have u286_4 : σ286 3 1 = σ 3 1 := by first | exact o286 1 (by decide) | exact congrFun (f286 3 (by decide)) 1
    refine pe_goto (t := 382) d_E_command_289 ?_
    refine pe_rv d_E_command_382 ?_
    first | exact ⟨hB, (fun b hb => (f286 b (by simp at hb ⊢; try omega)).trans (rfl)), xx⟩ | exact ⟨hB, (fun b hb => (f286 b (by simp at hb ⊢; try omega)).trans (rfl)), hE0⟩ | exact ⟨hB, (fun b hb => (f286 b (by simp at hb ⊢; try omega)).trans (rfl)), ⟨pe_HI_to hh ((f286 5 (by decide)).trans (rfl)) ((f286 6 (by decide)).trans (rfl)) ((f286 7 (by decide)).trans (rfl)) ((f286 8 (by decide)).trans (rfl)) ((f286 9 (by decide)).trans (rfl)) (congrFun ((f286 3 (by decide)).trans (rfl)) 1), pe_LI_to hL ((f286 12 (by decide)).trans (rfl)) ((f286 13 (by decide)).trans (rfl)) ((f286 14 (by decide)).trans (rfl)), by omega, by omega, by omega, by omega⟩⟩
  refine ⟨fun h1 => ?_, fun h1_14 => ?_⟩
  · show pe_G _ _ _ _ _ _
    refine pe_aload_n d_E_command_292 rfl ?_
    refine pe_aload_n d_E_command_293 rfl ?_
    refine pe_getr f_E_12 d_E_command_294 rfl rfl ?_
    refine pe_aload_n d_E_command_297 rfl ?_
    refine pe_geti f_E_78 d_E_command_298 rfl rfl 7 rfl ?_
    refine pe_v1p d_E_command_301 c_E_96 i_T_lineEnd s_T_lineEnd rfl rfl (t_T_lineEnd hB (by omega) (by omega)) (fun z301 hz301 => ?_)
    refine pe_putiT f_E_78 g_2_7 d_E_command_304 rfl rfl 7 rfl hB (by first | exact hB _ _ | exact hB0 _ _ | exact hBt _ _ | exact ⟨by omega, by omega⟩) (fun σ304 hB e304 o304 f304 => ?_)
    try have u304_0 : σ304 2 5 = σ 2 5 := by first | exact o304 5 (by decide) | exact congrFun (f304 2 (by decide)) 5
    try have u304_1 : σ304 2 6 = σ 2 6 := by first | exact o304 6 (by decide) | exact congrFun (f304 2 (by decide)) 6
    try have u304_2 : σ304 2 7 = σ 2 7 := by first | exact o304 7 (by decide) | exact congrFun (f304 2 (by decide)) 7
    try have u304_3 : σ304 2 8 = σ 2 8 := by first | exact o304 8 (by decide) | exact congrFun (f304 2 (by decide)) 8
    try have u304_4 : σ304 3 1 = σ 3 1 := by first | exact o304 1 (by decide) | exact congrFun (f304 3 (by decide)) 1
    refine pe_goto (t := 382) d_E_command_307 ?_
    refine pe_rv d_E_command_382 ?_
    first | exact ⟨hB, (fun b hb => (f304 b (by simp at hb ⊢; try omega)).trans (rfl)), xx⟩ | exact ⟨hB, (fun b hb => (f304 b (by simp at hb ⊢; try omega)).trans (rfl)), hE0⟩ | exact ⟨hB, (fun b hb => (f304 b (by simp at hb ⊢; try omega)).trans (rfl)), ⟨pe_HI_to hh ((f304 5 (by decide)).trans (rfl)) ((f304 6 (by decide)).trans (rfl)) ((f304 7 (by decide)).trans (rfl)) ((f304 8 (by decide)).trans (rfl)) ((f304 9 (by decide)).trans (rfl)) (congrFun ((f304 3 (by decide)).trans (rfl)) 1), pe_LI_to hL ((f304 12 (by decide)).trans (rfl)) ((f304 13 (by decide)).trans (rfl)) ((f304 14 (by decide)).trans (rfl)), by omega, by omega, by omega, by omega⟩⟩
  refine ⟨fun h1 => ?_, fun h1_15 => ?_⟩
  · show pe_G _ _ _ _ _ _
    refine pe_aload_n d_E_command_212 rfl ?_
    refine pe_aload_n d_E_command_213 rfl ?_
    refine pe_geti f_E_78 d_E_command_214 rfl rfl 7 rfl ?_
    refine pe_aload_n d_E_command_217 rfl ?_
    refine pe_getr f_E_12 d_E_command_218 rfl rfl ?_
    refine pe_aload_n d_E_command_221 rfl ?_
    refine pe_geti f_E_78 d_E_command_222 rfl rfl 7 rfl ?_
    refine pe_iconst d_E_command_225 ?_
    refine pe_iadd d_E_command_226 ?_
    refine pe_v1p d_E_command_227 c_E_81 i_T_beginningFrom s_T_beginningFrom rfl rfl (t_T_beginningFrom hB (by omega) (by omega)) (fun z227 hz227 => ?_)
    refine pe_v2v d_E_command_230 c_E_89 i_E_removeBetween s_E_removeBetween rfl rfl (t_E_removeBetween hB hE0 (by omega) (by omega)) (fun σ230 hz230 => ?_)
    obtain ⟨hB, f230, x230⟩ := hz230
    try have u230_0 : σ230 2 5 = σ 2 5 := by first | exact o230 5 (by decide) | exact congrFun (f230 2 (by decide)) 5
    try have u230_1 : σ230 2 6 = σ 2 6 := by first | exact o230 6 (by decide) | exact congrFun (f230 2 (by decide)) 6
    try have u230_2 : σ230 2 7 = σ 2 7 := by first | exact o230 7 (by decide) | exact congrFun (f230 2 (by decide)) 7
    try have u230_3 : σ230 2 8 = σ 2 8 := by first | exact o230 8 (by decide) | exact congrFun (f230 2 (by decide)) 8
    try have u230_4 : σ230 3 1 = σ 3 1 := by first | exact o230 1 (by decide) | exact congrFun (f230 3 (by decide)) 1
    have xx := x230
    refine pe_goto (t := 382) d_E_command_233 ?_
    refine pe_rv d_E_command_382 ?_
    first | exact ⟨hB, (fun b hb => (f230 b (by simp at hb ⊢; try omega)).trans (rfl)), xx⟩ | exact ⟨hB, (fun b hb => (f230 b (by simp at hb ⊢; try omega)).trans (rfl)), hE0⟩ | exact ⟨hB, (fun b hb => (f230 b (by simp at hb ⊢; try omega)).trans (rfl)), ⟨pe_HI_to hh ((f230 5 (by decide)).trans (rfl)) ((f230 6 (by decide)).trans (rfl)) ((f230 7 (by decide)).trans (rfl)) ((f230 8 (by decide)).trans (rfl)) ((f230 9 (by decide)).trans (rfl)) (congrFun ((f230 3 (by decide)).trans (rfl)) 1), pe_LI_to hL ((f230 12 (by decide)).trans (rfl)) ((f230 13 (by decide)).trans (rfl)) ((f230 14 (by decide)).trans (rfl)), by omega, by omega, by omega, by omega⟩⟩
  refine ⟨fun h1 => ?_, fun h1_16 => ?_⟩
  · show pe_G _ _ _ _ _ _
    refine pe_aload_n d_E_command_366 rfl ?_
    refine pe_iconst d_E_command_367 ?_
    refine pe_putzT f_E_55 g_2_10 d_E_command_368 rfl rfl (by first | exact Or.inl rfl | exact Or.inr rfl | omega) 10 rfl hB (fun σ368 hB e368 o368 f368 => ?_)
    try have u368_0 : σ368 2 5 = σ 2 5 := by first | exact o368 5 (by decide) | exact congrFun (f368 2 (by decide)) 5
    try have u368_1 : σ368 2 6 = σ 2 6 := by first | exact o368 6 (by decide) | exact congrFun (f368 2 (by decide)) 6
    try have u368_2 : σ368 2 7 = σ 2 7 := by first | exact o368 7 (by decide) | exact congrFun (f368 2 (by decide)) 7
    try have u368_3 : σ368 2 8 = σ 2 8 := by first | exact o368 8 (by decide) | exact congrFun (f368 2 (by decide)) 8
    try have u368_4 : σ368 3 1 = σ 3 1 := by first | exact o368 1 (by decide) | exact congrFun (f368 3 (by decide)) 1
    refine pe_goto (t := 382) d_E_command_371 ?_
    refine pe_rv d_E_command_382 ?_
    first | exact ⟨hB, (fun b hb => (f368 b (by simp at hb ⊢; try omega)).trans (rfl)), xx⟩ | exact ⟨hB, (fun b hb => (f368 b (by simp at hb ⊢; try omega)).trans (rfl)), hE0⟩ | exact ⟨hB, (fun b hb => (f368 b (by simp at hb ⊢; try omega)).trans (rfl)), ⟨pe_HI_to hh ((f368 5 (by decide)).trans (rfl)) ((f368 6 (by decide)).trans (rfl)) ((f368 7 (by decide)).trans (rfl)) ((f368 8 (by decide)).trans (rfl)) ((f368 9 (by decide)).trans (rfl)) (congrFun ((f368 3 (by decide)).trans (rfl)) 1), pe_LI_to hL ((f368 12 (by decide)).trans (rfl)) ((f368 13 (by decide)).trans (rfl)) ((f368 14 (by decide)).trans (rfl)), by omega, by omega, by omega, by omega⟩⟩
  refine ⟨fun h1 => ?_, fun h1_17 => ?_⟩
  · show pe_G _ _ _ _ _ _
    refine pe_aload_n d_E_command_374 rfl ?_
    refine pe_iconst d_E_command_375 ?_
    refine pe_putzT f_E_55 g_2_10 d_E_command_376 rfl rfl (by first | exact Or.inl rfl | exact Or.inr rfl | omega) 10 rfl hB (fun σ376 hB e376 o376 f376 => ?_)
    try have u376_0 : σ376 2 5 = σ 2 5 := by first | exact o376 5 (by decide) | exact congrFun (f376 2 (by decide)) 5
    try have u376_1 : σ376 2 6 = σ 2 6 := by first | exact o376 6 (by decide) | exact congrFun (f376 2 (by decide)) 6
    try have u376_2 : σ376 2 7 = σ 2 7 := by first | exact o376 7 (by decide) | exact congrFun (f376 2 (by decide)) 7
    try have u376_3 : σ376 2 8 = σ 2 8 := by first | exact o376 8 (by decide) | exact congrFun (f376 2 (by decide)) 8
    try have u376_4 : σ376 3 1 = σ 3 1 := by first | exact o376 1 (by decide) | exact congrFun (f376 3 (by decide)) 1
    refine pe_goto (t := 382) d_E_command_379 ?_
    refine pe_rv d_E_command_382 ?_
    first | exact ⟨hB, (fun b hb => (f376 b (by simp at hb ⊢; try omega)).trans (rfl)), xx⟩ | exact ⟨hB, (fun b hb => (f376 b (by simp at hb ⊢; try omega)).trans (rfl)), hE0⟩ | exact ⟨hB, (fun b hb => (f376 b (by simp at hb ⊢; try omega)).trans (rfl)), ⟨pe_HI_to hh ((f376 5 (by decide)).trans (rfl)) ((f376 6 (by decide)).trans (rfl)) ((f376 7 (by decide)).trans (rfl)) ((f376 8 (by decide)).trans (rfl)) ((f376 9 (by decide)).trans (rfl)) (congrFun ((f376 3 (by decide)).trans (rfl)) 1), pe_LI_to hL ((f376 12 (by decide)).trans (rfl)) ((f376 13 (by decide)).trans (rfl)) ((f376 14 (by decide)).trans (rfl)), by omega, by omega, by omega, by omega⟩⟩
  show pe_G _ _ _ _ _ _
  refine pe_rv d_E_command_382 ?_
  first | exact ⟨hB, (fun b hb => rfl), xx⟩ | exact ⟨hB, (fun b hb => rfl), hE0⟩ | exact ⟨hB, (fun b hb => rfl), ⟨pe_HI_to hh (rfl) (rfl) (rfl) (rfl) (rfl) (congrFun (rfl) 1), pe_LI_to hL (rfl) (rfl) (rfl), by omega, by omega, by omega, by omega⟩⟩
theorem t_E_press {σ : pe_H} {k : Int} (hB : pe_B σ) (hE : pe_EI σ) (hk : pe_R k) : pe_M m_E_press [pe_r 2, pe_i k] σ (pe_qv (fun σ' => pe_B σ' ∧ (∀ b, b ∉ [2, 3, 4, 5, 6, 7, 8, 9, 10, 12, 13, 14, 15, 16] → σ' b = σ b) ∧ pe_EI σ')) := by
  refine pe_in0 (lv := [some (pe_r 2), some (pe_i k)]) ?_
  have hB0 := hB
  have hE0 := hE
  obtain ⟨hh, hL, hcu, hma, hcl, hco⟩ := hE
  have hlen := pe_ch_len hh.2.2
  have J85 : ∀ τ : pe_H, (pe_B τ ∧ (∀ b, b ∉ [2, 3, 4, 5, 6, 7, 8, 9, 10, 12, 13, 14, 15, 16] → τ b = σ b) ∧ pe_EI τ) → pe_G m_E_press 85 [some (pe_r 2), some (pe_i k)] [] τ (pe_qv (fun σ' => pe_B σ' ∧ (∀ b, b ∉ [2, 3, 4, 5, 6, 7, 8, 9, 10, 12, 13, 14, 15, 16] → σ' b = σ b) ∧ pe_EI σ')) := by
    intro τ hI
    obtain ⟨hB, hfr, hX⟩ := hI
    have hE1 := hX
    obtain ⟨hh, hL, hcu, hma, hcl, hco⟩ := hX
    have hlen := pe_ch_len hh.2.2
    have hBt := hB
    refine pe_aload_n d_E_press_85 rfl ?_
    refine pe_aload_n d_E_press_86 rfl ?_
    refine pe_getr f_E_12 d_E_press_87 rfl rfl ?_
    refine pe_aload_n d_E_press_90 rfl ?_
    refine pe_geti f_E_78 d_E_press_91 rfl rfl 7 rfl ?_
    refine pe_v1p d_E_press_94 c_E_81 i_T_beginningFrom s_T_beginningFrom rfl rfl (t_T_beginningFrom hB (by omega) (by omega)) (fun z94 hz94 => ?_)
    refine pe_putiT f_E_78 g_2_7 d_E_press_97 rfl rfl 7 rfl hB (by first | exact hB _ _ | exact hB0 _ _ | exact hBt _ _ | exact ⟨by omega, by omega⟩) (fun σ97 hB e97 o97 f97 => ?_)
    try have u97_0 : σ97 2 5 = τ 2 5 := by first | exact o97 5 (by decide) | exact congrFun (f97 2 (by decide)) 5
    try have u97_1 : σ97 2 6 = τ 2 6 := by first | exact o97 6 (by decide) | exact congrFun (f97 2 (by decide)) 6
    try have u97_2 : σ97 2 7 = τ 2 7 := by first | exact o97 7 (by decide) | exact congrFun (f97 2 (by decide)) 7
    try have u97_3 : σ97 2 8 = τ 2 8 := by first | exact o97 8 (by decide) | exact congrFun (f97 2 (by decide)) 8
    try have u97_4 : σ97 3 1 = τ 3 1 := by first | exact o97 1 (by decide) | exact congrFun (f97 3 (by decide)) 1
    refine pe_rv d_E_press_100 ?_
    refine ⟨hB, (fun b hb => (f97 b (by simp at hb ⊢; try omega)).trans (hfr b (by simp at hb ⊢; try omega))), ⟨pe_HI_to hh (f97 5 (by decide)) (f97 6 (by decide)) (f97 7 (by decide)) (f97 8 (by decide)) (f97 9 (by decide)) (congrFun (f97 3 (by decide)) 1), pe_LI_to hL (f97 12 (by decide)) (f97 13 (by decide)) (f97 14 (by decide)), by omega, by omega, by omega, by omega⟩⟩
  have J60 : ∀ _u : Unit, True → pe_G m_E_press 60 [some (pe_r 2), some (pe_i k)] [] σ (pe_qv (fun σ' => pe_B σ' ∧ (∀ b, b ∉ [2, 3, 4, 5, 6, 7, 8, 9, 10, 12, 13, 14, 15, 16] → σ' b = σ b) ∧ pe_EI σ')) := by
    intro _u hI
    refine pe_aload_n d_E_press_60 rfl ?_
    refine pe_iconst d_E_press_61 ?_
    refine pe_putiT f_E_43 g_2_9 d_E_press_62 rfl rfl 9 rfl hB (by first | exact hB _ _ | exact hB0 _ _ | exact hBt _ _ | exact ⟨by omega, by omega⟩) (fun σ62 hB e62 o62 f62 => ?_)
    try have u62_0 : σ62 2 5 = σ 2 5 := by first | exact o62 5 (by decide) | exact congrFun (f62 2 (by decide)) 5
    try have u62_1 : σ62 2 6 = σ 2 6 := by first | exact o62 6 (by decide) | exact congrFun (f62 2 (by decide)) 6
    try have u62_2 : σ62 2 7 = σ 2 7 := by first | exact o62 7 (by decide) | exact congrFun (f62 2 (by decide)) 7
    try have u62_3 : σ62 2 8 = σ 2 8 := by first | exact o62 8 (by decide) | exact congrFun (f62 2 (by decide)) 8
    try have u62_4 : σ62 3 1 = σ 3 1 := by first | exact o62 1 (by decide) | exact congrFun (f62 3 (by decide)) 1
    refine pe_iload_n d_E_press_65 rfl ?_
    refine pe_s1p d_E_press_66 c_E_69 z_E_isCharacter (t_E_isCharacter (by first | exact hB _ _ | exact hB0 _ _ | exact hBt _ _ | exact ⟨by omega, by omega⟩)) (fun z66 hz66 => ?_)
    refine pe_if_eq (t := 80) d_E_press_69 (by first | exact hB _ _ | exact hB0 _ _ | exact hBt _ _ | exact ⟨by omega, by omega⟩) (fun h69 => ?_) (fun h69 => ?_)
    · skip
      refine pe_aload_n d_E_press_80 rfl ?_
      refine pe_iload_n d_E_press_81 rfl ?_
      refine pe_v1v d_E_press_82 c_E_75 i_E_command s_E_command rfl rfl (t_E_command hB ⟨pe_HI_to hh ((f62 5 (by decide)).trans (rfl)) ((f62 6 (by decide)).trans (rfl)) ((f62 7 (by decide)).trans (rfl)) ((f62 8 (by decide)).trans (rfl)) ((f62 9 (by decide)).trans (rfl)) (congrFun ((f62 3 (by decide)).trans (rfl)) 1), pe_LI_to hL ((f62 12 (by decide)).trans (rfl)) ((f62 13 (by decide)).trans (rfl)) ((f62 14 (by decide)).trans (rfl)), by omega, by omega, by omega, by omega⟩ (by first | exact hB _ _ | exact hB0 _ _ | exact hBt _ _ | exact ⟨by omega, by omega⟩)) (fun σ82 hz82 => ?_)
      obtain ⟨hB, f82, x82⟩ := hz82
      try have u82_0 : σ82 2 5 = σ62 2 5 := by first | exact o82 5 (by decide) | exact congrFun (f82 2 (by decide)) 5
      try have u82_1 : σ82 2 6 = σ62 2 6 := by first | exact o82 6 (by decide) | exact congrFun (f82 2 (by decide)) 6
      try have u82_2 : σ82 2 7 = σ62 2 7 := by first | exact o82 7 (by decide) | exact congrFun (f82 2 (by decide)) 7
      try have u82_3 : σ82 2 8 = σ62 2 8 := by first | exact o82 8 (by decide) | exact congrFun (f82 2 (by decide)) 8
      try have u82_4 : σ82 3 1 = σ62 3 1 := by first | exact o82 1 (by decide) | exact congrFun (f82 3 (by decide)) 1
      have xx := x82
      exact J85 _ ⟨hB, (fun b hb => (f82 b (by simp at hb ⊢; try omega)).trans ((f62 b (by simp at hb ⊢; try omega)).trans (rfl))), xx⟩
    · skip
      refine pe_aload_n d_E_press_72 rfl ?_
      refine pe_iload_n d_E_press_73 rfl ?_
      refine pe_v1v d_E_press_74 c_E_72 i_E_insertOne s_E_insertOne rfl rfl (t_E_insertOne hB ⟨pe_HI_to hh ((f62 5 (by decide)).trans (rfl)) ((f62 6 (by decide)).trans (rfl)) ((f62 7 (by decide)).trans (rfl)) ((f62 8 (by decide)).trans (rfl)) ((f62 9 (by decide)).trans (rfl)) (congrFun ((f62 3 (by decide)).trans (rfl)) 1), pe_LI_to hL ((f62 12 (by decide)).trans (rfl)) ((f62 13 (by decide)).trans (rfl)) ((f62 14 (by decide)).trans (rfl)), by omega, by omega, by omega, by omega⟩ (by first | exact hB _ _ | exact hB0 _ _ | exact hBt _ _ | exact ⟨by omega, by omega⟩)) (fun σ74 hz74 => ?_)
      obtain ⟨hB, f74, x74⟩ := hz74
      try have u74_0 : σ74 2 5 = σ62 2 5 := by first | exact o74 5 (by decide) | exact congrFun (f74 2 (by decide)) 5
      try have u74_1 : σ74 2 6 = σ62 2 6 := by first | exact o74 6 (by decide) | exact congrFun (f74 2 (by decide)) 6
      try have u74_2 : σ74 2 7 = σ62 2 7 := by first | exact o74 7 (by decide) | exact congrFun (f74 2 (by decide)) 7
      try have u74_3 : σ74 2 8 = σ62 2 8 := by first | exact o74 8 (by decide) | exact congrFun (f74 2 (by decide)) 8
      try have u74_4 : σ74 3 1 = σ62 3 1 := by first | exact o74 1 (by decide) | exact congrFun (f74 3 (by decide)) 1
      have xx := x74
      refine pe_goto (t := 85) d_E_press_77 ?_
      exact J85 _ ⟨hB, (fun b hb => (f74 b (by simp at hb ⊢; try omega)).trans ((f62 b (by simp at hb ⊢; try omega)).trans (rfl))), xx⟩
  refine pe_iload_n d_E_press_0 rfl ?_
  refine pe_ldc q_E_53 d_E_press_1 (z := 65536) rfl ?_
  refine pe_icmp_eq (t := 12) d_E_press_3 (by first | exact hB _ _ | exact hB0 _ _ | exact hBt _ _ | exact ⟨by omega, by omega⟩) (by first | exact hB _ _ | exact hB0 _ _ | exact hBt _ _ | exact ⟨by omega, by omega⟩) (fun h3 => ?_) (fun h3 => ?_)
  · skip
    refine pe_aload_n d_E_press_12 rfl ?_
    refine pe_geti f_E_55 d_E_press_13 rfl rfl 10 rfl ?_
    refine pe_if_ne (t := 34) d_E_press_16 (by first | exact hB _ _ | exact hB0 _ _ | exact hBt _ _ | exact ⟨by omega, by omega⟩) (fun h16 => ?_) (fun h16 => ?_)
    · skip
      refine pe_rv d_E_press_34 ?_
      first | exact ⟨hB, (fun b hb => rfl), xx⟩ | exact ⟨hB, (fun b hb => rfl), hE0⟩
    · skip
      refine pe_aload_n d_E_press_19 rfl ?_
      refine pe_iload_n d_E_press_20 rfl ?_
      refine pe_ldc q_E_53 d_E_press_21 (z := 65536) rfl ?_
      refine pe_icmp_ne (t := 30) d_E_press_23 (by first | exact hB _ _ | exact hB0 _ _ | exact hBt _ _ | exact ⟨by omega, by omega⟩) (by first | exact hB _ _ | exact hB0 _ _ | exact hBt _ _ | exact ⟨by omega, by omega⟩) (fun h23 => ?_) (fun h23 => ?_)
      · skip
        refine pe_iconst d_E_press_30 ?_
        refine pe_v1v d_E_press_31 c_E_58 i_E_moveByRow s_E_moveByRow rfl rfl (t_E_moveByRow hB hE0 (by omega)) (fun σ31 hz31 => ?_)
        obtain ⟨hB, f31, x31⟩ := hz31
        try have u31_0 : σ31 2 5 = σ 2 5 := by first | exact o31 5 (by decide) | exact congrFun (f31 2 (by decide)) 5
        try have u31_1 : σ31 2 6 = σ 2 6 := by first | exact o31 6 (by decide) | exact congrFun (f31 2 (by decide)) 6
        try have u31_2 : σ31 2 7 = σ 2 7 := by first | exact o31 7 (by decide) | exact congrFun (f31 2 (by decide)) 7
        try have u31_3 : σ31 2 8 = σ 2 8 := by first | exact o31 8 (by decide) | exact congrFun (f31 2 (by decide)) 8
        try have u31_4 : σ31 3 1 = σ 3 1 := by first | exact o31 1 (by decide) | exact congrFun (f31 3 (by decide)) 1
        have xx := x31
        refine pe_rv d_E_press_34 ?_
        first | exact ⟨hB, (fun b hb => (f31 b (by simp at hb ⊢; try omega)).trans (rfl)), xx⟩ | exact ⟨hB, (fun b hb => (f31 b (by simp at hb ⊢; try omega)).trans (rfl)), hE0⟩
      · skip
        refine pe_iconst d_E_press_26 ?_
        refine pe_goto (t := 31) d_E_press_27 ?_
        refine pe_v1v d_E_press_31 c_E_58 i_E_moveByRow s_E_moveByRow rfl rfl (t_E_moveByRow hB hE0 (by omega)) (fun σ31 hz31 => ?_)
        obtain ⟨hB, f31, x31⟩ := hz31
        try have u31_0 : σ31 2 5 = σ 2 5 := by first | exact o31 5 (by decide) | exact congrFun (f31 2 (by decide)) 5
        try have u31_1 : σ31 2 6 = σ 2 6 := by first | exact o31 6 (by decide) | exact congrFun (f31 2 (by decide)) 6
        try have u31_2 : σ31 2 7 = σ 2 7 := by first | exact o31 7 (by decide) | exact congrFun (f31 2 (by decide)) 7
        try have u31_3 : σ31 2 8 = σ 2 8 := by first | exact o31 8 (by decide) | exact congrFun (f31 2 (by decide)) 8
        try have u31_4 : σ31 3 1 = σ 3 1 := by first | exact o31 1 (by decide) | exact congrFun (f31 3 (by decide)) 1
        have xx := x31
        refine pe_rv d_E_press_34 ?_
        first | exact ⟨hB, (fun b hb => (f31 b (by simp at hb ⊢; try omega)).trans (rfl)), xx⟩ | exact ⟨hB, (fun b hb => (f31 b (by simp at hb ⊢; try omega)).trans (rfl)), hE0⟩
  · skip
    refine pe_iload_n d_E_press_6 rfl ?_
    refine pe_ldc q_E_54 d_E_press_7 (z := 65537) rfl ?_
    refine pe_icmp_ne (t := 35) d_E_press_9 (by first | exact hB _ _ | exact hB0 _ _ | exact hBt _ _ | exact ⟨by omega, by omega⟩) (by first | exact hB _ _ | exact hB0 _ _ | exact hBt _ _ | exact ⟨by omega, by omega⟩) (fun h9 => ?_) (fun h9 => ?_)
    · skip
      refine pe_aload_n d_E_press_35 rfl ?_
      refine pe_geti f_E_55 d_E_press_36 rfl rfl 10 rfl ?_
      refine pe_if_eq (t := 52) d_E_press_39 (by first | exact hB _ _ | exact hB0 _ _ | exact hBt _ _ | exact ⟨by omega, by omega⟩) (fun h39 => ?_) (fun h39 => ?_)
      · skip
        refine pe_iload_n d_E_press_52 rfl ?_
        refine pe_s1p d_E_press_53 c_E_66 z_E_worksOtherwise (t_E_worksOtherwise (by first | exact hB _ _ | exact hB0 _ _ | exact hBt _ _ | exact ⟨by omega, by omega⟩)) (fun z53 hz53 => ?_)
        refine pe_if_ne (t := 60) d_E_press_56 (by first | exact hB _ _ | exact hB0 _ _ | exact hBt _ _ | exact ⟨by omega, by omega⟩) (fun h56 => ?_) (fun h56 => ?_)
        · skip
          exact J60 () trivial
        · skip
          refine pe_rv d_E_press_59 ?_
          exact ⟨hB, (fun b hb => rfl), hE0⟩
      · skip
        refine pe_iload_n d_E_press_42 rfl ?_
        refine pe_s1p d_E_press_43 c_E_62 z_E_worksWhilePasting (t_E_worksWhilePasting (by first | exact hB _ _ | exact hB0 _ _ | exact hBt _ _ | exact ⟨by omega, by omega⟩)) (fun z43 hz43 => ?_)
        refine pe_if_ne (t := 60) d_E_press_46 (by first | exact hB _ _ | exact hB0 _ _ | exact hBt _ _ | exact ⟨by omega, by omega⟩) (fun h46 => ?_) (fun h46 => ?_)
        · skip
          exact J60 () trivial
        · skip
          refine pe_goto (t := 59) d_E_press_49 ?_
          refine pe_rv d_E_press_59 ?_
          exact ⟨hB, (fun b hb => rfl), hE0⟩
    · skip
      refine pe_aload_n d_E_press_12 rfl ?_
      refine pe_geti f_E_55 d_E_press_13 rfl rfl 10 rfl ?_
      refine pe_if_ne (t := 34) d_E_press_16 (by first | exact hB _ _ | exact hB0 _ _ | exact hBt _ _ | exact ⟨by omega, by omega⟩) (fun h16 => ?_) (fun h16 => ?_)
      · skip
        refine pe_rv d_E_press_34 ?_
        first | exact ⟨hB, (fun b hb => rfl), xx⟩ | exact ⟨hB, (fun b hb => rfl), hE0⟩
      · skip
        refine pe_aload_n d_E_press_19 rfl ?_
        refine pe_iload_n d_E_press_20 rfl ?_
        refine pe_ldc q_E_53 d_E_press_21 (z := 65536) rfl ?_
        refine pe_icmp_ne (t := 30) d_E_press_23 (by first | exact hB _ _ | exact hB0 _ _ | exact hBt _ _ | exact ⟨by omega, by omega⟩) (by first | exact hB _ _ | exact hB0 _ _ | exact hBt _ _ | exact ⟨by omega, by omega⟩) (fun h23 => ?_) (fun h23 => ?_)
        · skip
          refine pe_iconst d_E_press_30 ?_
          refine pe_v1v d_E_press_31 c_E_58 i_E_moveByRow s_E_moveByRow rfl rfl (t_E_moveByRow hB hE0 (by omega)) (fun σ31 hz31 => ?_)
          obtain ⟨hB, f31, x31⟩ := hz31
          try have u31_0 : σ31 2 5 = σ 2 5 := by first | exact o31 5 (by decide) | exact congrFun (f31 2 (by decide)) 5
          try have u31_1 : σ31 2 6 = σ 2 6 := by first | exact o31 6 (by decide) | exact congrFun (f31 2 (by decide)) 6
          try have u31_2 : σ31 2 7 = σ 2 7 := by first | exact o31 7 (by decide) | exact congrFun (f31 2 (by decide)) 7
          try have u31_3 : σ31 2 8 = σ 2 8 := by first | exact o31 8 (by decide) | exact congrFun (f31 2 (by decide)) 8
          try have u31_4 : σ31 3 1 = σ 3 1 := by first | exact o31 1 (by decide) | exact congrFun (f31 3 (by decide)) 1
          have xx := x31
          refine pe_rv d_E_press_34 ?_
          first | exact ⟨hB, (fun b hb => (f31 b (by simp at hb ⊢; try omega)).trans (rfl)), xx⟩ | exact ⟨hB, (fun b hb => (f31 b (by simp at hb ⊢; try omega)).trans (rfl)), hE0⟩
        · skip
          refine pe_iconst d_E_press_26 ?_
          refine pe_goto (t := 31) d_E_press_27 ?_
          refine pe_v1v d_E_press_31 c_E_58 i_E_moveByRow s_E_moveByRow rfl rfl (t_E_moveByRow hB hE0 (by omega)) (fun σ31 hz31 => ?_)
          obtain ⟨hB, f31, x31⟩ := hz31
          try have u31_0 : σ31 2 5 = σ 2 5 := by first | exact o31 5 (by decide) | exact congrFun (f31 2 (by decide)) 5
          try have u31_1 : σ31 2 6 = σ 2 6 := by first | exact o31 6 (by decide) | exact congrFun (f31 2 (by decide)) 6
          try have u31_2 : σ31 2 7 = σ 2 7 := by first | exact o31 7 (by decide) | exact congrFun (f31 2 (by decide)) 7
          try have u31_3 : σ31 2 8 = σ 2 8 := by first | exact o31 8 (by decide) | exact congrFun (f31 2 (by decide)) 8
          try have u31_4 : σ31 3 1 = σ 3 1 := by first | exact o31 1 (by decide) | exact congrFun (f31 3 (by decide)) 1
          have xx := x31
          refine pe_rv d_E_press_34 ?_
          first | exact ⟨hB, (fun b hb => (f31 b (by simp at hb ⊢; try omega)).trans (rfl)), xx⟩ | exact ⟨hB, (fun b hb => (f31 b (by simp at hb ⊢; try omega)).trans (rfl)), hE0⟩
