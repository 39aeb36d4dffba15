theorem t_T_codeAt {σ : pe_H} {p : Int} (hB : pe_B σ) (hp : pe_R p) (hl : 0 ≤ σ 3 1 ∧ σ 3 1 ≤ 200) : pe_M m_T_codeAt [pe_r 3, pe_i p] σ (pe_qp σ (fun z => z = if 0 ≤ p ∧ p < σ 3 1 then σ 4 p else -1)) := by
  refine pe_in0 (lv := [some (pe_r 3), some (pe_i p)]) ?_
  have hB0 := hB
  refine pe_iload_n d_T_codeAt_0 rfl ?_
  refine pe_if_lt (t := 21) d_T_codeAt_1 (by first | exact hB _ _ | exact hB0 _ _ | exact hBt _ _ | exact ⟨by omega, by omega⟩) (fun h1 => ?_) (fun h1 => ?_)
  · skip
    refine pe_iconst d_T_codeAt_21 ?_
    refine pe_ri d_T_codeAt_22 ?_
    refine ⟨rfl, ?_⟩
    try dsimp only
    split <;> first | rfl | omega
  · skip
    refine pe_iload_n d_T_codeAt_4 rfl ?_
    refine pe_aload_n d_T_codeAt_5 rfl ?_
    refine pe_geti f_T_15 d_T_codeAt_6 rfl rfl 1 rfl ?_
    refine pe_icmp_ge (t := 21) d_T_codeAt_9 (by first | exact hB _ _ | exact hB0 _ _ | exact hBt _ _ | exact ⟨by omega, by omega⟩) (by first | exact hB _ _ | exact hB0 _ _ | exact hBt _ _ | exact ⟨by omega, by omega⟩) (fun h9 => ?_) (fun h9 => ?_)
    · skip
      refine pe_iconst d_T_codeAt_21 ?_
      refine pe_ri d_T_codeAt_22 ?_
      refine ⟨rfl, ?_⟩
      try dsimp only
      split <;> first | rfl | omega
    · skip
      refine pe_aload_n d_T_codeAt_12 rfl ?_
      refine pe_getr f_T_9 d_T_codeAt_13 rfl rfl ?_
      refine pe_iload_n d_T_codeAt_16 rfl ?_
      refine pe_iald d_T_codeAt_17 rfl (by omega) (by omega) ?_
      refine pe_goto (t := 22) d_T_codeAt_18 ?_
      refine pe_ri d_T_codeAt_22 ?_
      refine ⟨rfl, ?_⟩
      try dsimp only
      split <;> first | rfl | omega
theorem t_T_hasRoomFor {σ : pe_H} {n : Int} (hn : pe_R n) (hl : 0 ≤ σ 3 1 ∧ σ 3 1 ≤ 200) : pe_M m_T_hasRoomFor [pe_r 3, pe_i n] σ (pe_qp σ (fun z => (z = 0 ∨ z = 1) ∧ (z = 1 ↔ n ≤ 200 - σ 3 1))) := by
  refine pe_in0 (lv := [some (pe_r 3), some (pe_i n)]) ?_
  refine pe_iload_n d_T_hasRoomFor_0 rfl ?_
  refine pe_sipush d_T_hasRoomFor_1 ?_
  refine pe_aload_n d_T_hasRoomFor_4 rfl ?_
  refine pe_geti f_T_15 d_T_hasRoomFor_5 rfl rfl 1 rfl ?_
  refine pe_isub d_T_hasRoomFor_8 ?_
  refine pe_icmp_gt (t := 16) d_T_hasRoomFor_9 (by first | exact hB _ _ | exact hB0 _ _ | exact hBt _ _ | exact ⟨by omega, by omega⟩) (by first | exact hB _ _ | exact hB0 _ _ | exact hBt _ _ | exact ⟨by omega, by omega⟩) (fun h9 => ?_) (fun h9 => ?_)
  · skip
    refine pe_iconst d_T_hasRoomFor_16 ?_
    refine pe_rz d_T_hasRoomFor_17 (by first | exact Or.inl rfl | exact Or.inr rfl | omega) ?_
    exact ⟨rfl, by (try dsimp only); omega⟩
  · skip
    refine pe_iconst d_T_hasRoomFor_12 ?_
    refine pe_goto (t := 17) d_T_hasRoomFor_13 ?_
    refine pe_rz d_T_hasRoomFor_17 (by first | exact Or.inl rfl | exact Or.inr rfl | omega) ?_
    exact ⟨rfl, by (try dsimp only); omega⟩
theorem t_T_isBeginning {σ : pe_H} {p : Int} (hB : pe_B σ) (hp : -1000 ≤ p ∧ p ≤ 1000) (hl : 0 ≤ σ 3 1 ∧ σ 3 1 ≤ 200) : pe_M m_T_isBeginning [pe_r 3, pe_i p] σ (pe_qp σ (fun z => z = 0 ∨ z = 1)) := by
  refine pe_in0 (lv := [some (pe_r 3), some (pe_i p), none]) ?_
  have hB0 := hB
  refine pe_aload_n d_T_isBeginning_0 rfl ?_
  refine pe_iload_n d_T_isBeginning_1 rfl ?_
  refine pe_v1p d_T_isBeginning_2 c_T_25 i_T_codeAt s_T_codeAt rfl rfl (t_T_codeAt hB (by first | exact hB _ _ | exact hB0 _ _ | exact hBt _ _ | exact ⟨by omega, by omega⟩) (by omega)) (fun z2 hz2 => ?_)
  have hR2 : pe_R z2 := by rw [hz2]; split <;> first | exact hB _ _ | exact ⟨by omega, by omega⟩
  refine pe_s1p d_T_isBeginning_5 c_T_29 z_C_isMark (t_C_isMark (by first | exact hB _ _ | exact hB0 _ _ | exact hBt _ _ | exact ⟨by omega, by omega⟩)) (fun z5 hz5 => ?_)
  refine pe_if_ne (t := 13) d_T_isBeginning_8 (by first | exact hB _ _ | exact hB0 _ _ | exact hBt _ _ | exact ⟨by omega, by omega⟩) (fun h8 => ?_) (fun h8 => ?_)
  · skip
    refine pe_aload_n d_T_isBeginning_13 rfl ?_
    refine pe_iload_n d_T_isBeginning_14 rfl ?_
    refine pe_iconst d_T_isBeginning_15 ?_
    refine pe_isub d_T_isBeginning_16 ?_
    refine pe_v1p d_T_isBeginning_17 c_T_25 i_T_codeAt s_T_codeAt rfl rfl (t_T_codeAt hB (by first | exact hB _ _ | exact hB0 _ _ | exact hBt _ _ | exact ⟨by omega, by omega⟩) (by omega)) (fun z17 hz17 => ?_)
    have hR17 : pe_R z17 := by rw [hz17]; split <;> first | exact hB _ _ | exact ⟨by omega, by omega⟩
    refine pe_s1p d_T_isBeginning_20 c_T_29 z_C_isMark (t_C_isMark (by first | exact hB _ _ | exact hB0 _ _ | exact hBt _ _ | exact ⟨by omega, by omega⟩)) (fun z20 hz20 => ?_)
    refine pe_if_eq (t := 32) d_T_isBeginning_23 (by first | exact hB _ _ | exact hB0 _ _ | exact hBt _ _ | exact ⟨by omega, by omega⟩) (fun h23 => ?_) (fun h23 => ?_)
    · skip
      refine pe_iload_n d_T_isBeginning_32 rfl ?_
      refine pe_iconst d_T_isBeginning_33 ?_
      refine pe_isub d_T_isBeginning_34 ?_
      refine pe_istore_n d_T_isBeginning_35 ?_
      refine pe_aload_n d_T_isBeginning_36 rfl ?_
      refine pe_iload_n d_T_isBeginning_37 rfl ?_
      refine pe_v1p d_T_isBeginning_38 c_T_25 i_T_codeAt s_T_codeAt rfl rfl (t_T_codeAt hB (by first | exact hB _ _ | exact hB0 _ _ | exact hBt _ _ | exact ⟨by omega, by omega⟩) (by omega)) (fun z38 hz38 => ?_)
      have hR38 : pe_R z38 := by rw [hz38]; split <;> first | exact hB _ _ | exact ⟨by omega, by omega⟩
      refine pe_s1p d_T_isBeginning_41 c_T_35 z_C_takesMarks (t_C_takesMarks (by first | exact hB _ _ | exact hB0 _ _ | exact hBt _ _ | exact ⟨by omega, by omega⟩)) (fun z41 hz41 => ?_)
      refine pe_if_ne (t := 51) d_T_isBeginning_44 (by first | exact hB _ _ | exact hB0 _ _ | exact hBt _ _ | exact ⟨by omega, by omega⟩) (fun h44 => ?_) (fun h44 => ?_)
      · skip
        refine pe_iconst d_T_isBeginning_51 ?_
        refine pe_rz d_T_isBeginning_52 (by first | exact Or.inl rfl | exact Or.inr rfl | omega) ?_
        exact ⟨rfl, by (try dsimp only); omega⟩
      · skip
        refine pe_iconst d_T_isBeginning_47 ?_
        refine pe_goto (t := 52) d_T_isBeginning_48 ?_
        refine pe_rz d_T_isBeginning_52 (by first | exact Or.inl rfl | exact Or.inr rfl | omega) ?_
        exact ⟨rfl, by (try dsimp only); omega⟩
    · skip
      refine pe_iload_n d_T_isBeginning_26 rfl ?_
      refine pe_iconst d_T_isBeginning_27 ?_
      refine pe_isub d_T_isBeginning_28 ?_
      refine pe_goto (t := 35) d_T_isBeginning_29 ?_
      refine pe_istore_n d_T_isBeginning_35 ?_
      refine pe_aload_n d_T_isBeginning_36 rfl ?_
      refine pe_iload_n d_T_isBeginning_37 rfl ?_
      refine pe_v1p d_T_isBeginning_38 c_T_25 i_T_codeAt s_T_codeAt rfl rfl (t_T_codeAt hB (by first | exact hB _ _ | exact hB0 _ _ | exact hBt _ _ | exact ⟨by omega, by omega⟩) (by omega)) (fun z38 hz38 => ?_)
      have hR38 : pe_R z38 := by rw [hz38]; split <;> first | exact hB _ _ | exact ⟨by omega, by omega⟩
      refine pe_s1p d_T_isBeginning_41 c_T_35 z_C_takesMarks (t_C_takesMarks (by first | exact hB _ _ | exact hB0 _ _ | exact hBt _ _ | exact ⟨by omega, by omega⟩)) (fun z41 hz41 => ?_)
      refine pe_if_ne (t := 51) d_T_isBeginning_44 (by first | exact hB _ _ | exact hB0 _ _ | exact hBt _ _ | exact ⟨by omega, by omega⟩) (fun h44 => ?_) (fun h44 => ?_)
      · skip
        refine pe_iconst d_T_isBeginning_51 ?_
        refine pe_rz d_T_isBeginning_52 (by first | exact Or.inl rfl | exact Or.inr rfl | omega) ?_
        exact ⟨rfl, by (try dsimp only); omega⟩
      · skip
        refine pe_iconst d_T_isBeginning_47 ?_
        refine pe_goto (t := 52) d_T_isBeginning_48 ?_
        refine pe_rz d_T_isBeginning_52 (by first | exact Or.inl rfl | exact Or.inr rfl | omega) ?_
        exact ⟨rfl, by (try dsimp only); omega⟩
  · skip
    refine pe_iconst d_T_isBeginning_11 ?_
    refine pe_rz d_T_isBeginning_12 (by first | exact Or.inl rfl | exact Or.inr rfl | omega) ?_
    exact ⟨rfl, by (try dsimp only); omega⟩
theorem t_T_beginningFrom {σ : pe_H} {p : Int} (hB : pe_B σ) (hp : 0 ≤ p ∧ p ≤ 1000) (hl : 0 ≤ σ 3 1 ∧ σ 3 1 ≤ 200) : pe_M m_T_beginningFrom [pe_r 3, pe_i p] σ (pe_qp σ (fun z => 0 ≤ z ∧ z ≤ σ 3 1)) := by
  refine pe_in0 (lv := [some (pe_r 3), some (pe_i p), none]) ?_
  have hB0 := hB
  have J2 : ∀ f : Int, (0 ≤ f ∧ f ≤ 1000) → pe_G m_T_beginningFrom 2 [some (pe_r 3), some (pe_i p), some (pe_i f)] [] σ (pe_qp σ (fun z => 0 ≤ z ∧ z ≤ σ 3 1)) := by
    refine pe_loop (fun f : Int => (2000 - f).toNat) _ _ ?_
    intro f hI ih
    refine pe_iload_n d_T_beginningFrom_2 rfl ?_
    refine pe_aload_n d_T_beginningFrom_3 rfl ?_
    refine pe_geti f_T_15 d_T_beginningFrom_4 rfl rfl 1 rfl ?_
    refine pe_icmp_ge (t := 24) d_T_beginningFrom_7 (by first | exact hB _ _ | exact hB0 _ _ | exact hBt _ _ | exact ⟨by omega, by omega⟩) (by first | exact hB _ _ | exact hB0 _ _ | exact hBt _ _ | exact ⟨by omega, by omega⟩) (fun h7 => ?_) (fun h7 => ?_)
    · skip
      refine pe_iload_n d_T_beginningFrom_24 rfl ?_
      refine pe_aload_n d_T_beginningFrom_25 rfl ?_
      refine pe_geti f_T_15 d_T_beginningFrom_26 rfl rfl 1 rfl ?_
      refine pe_minT c_T_41 d_T_beginningFrom_29 (by first | exact hB _ _ | exact hB0 _ _ | exact hBt _ _ | exact ⟨by omega, by omega⟩) (by first | exact hB _ _ | exact hB0 _ _ | exact hBt _ _ | exact ⟨by omega, by omega⟩) (fun z29 hz29 => ?_)
      refine pe_ri d_T_beginningFrom_32 ?_
      exact ⟨rfl, by (try dsimp only); omega⟩
    · skip
      refine pe_aload_n d_T_beginningFrom_10 rfl ?_
      refine pe_iload_n d_T_beginningFrom_11 rfl ?_
      refine pe_v1p d_T_beginningFrom_12 c_T_38 i_T_isBeginning s_T_isBeginning rfl rfl (t_T_isBeginning hB (by omega) (by omega)) (fun z12 hz12 => ?_)
      refine pe_if_ne (t := 24) d_T_beginningFrom_15 (by first | exact hB _ _ | exact hB0 _ _ | exact hBt _ _ | exact ⟨by omega, by omega⟩) (fun h15 => ?_) (fun h15 => ?_)
      · skip
        refine pe_iload_n d_T_beginningFrom_24 rfl ?_
        refine pe_aload_n d_T_beginningFrom_25 rfl ?_
        refine pe_geti f_T_15 d_T_beginningFrom_26 rfl rfl 1 rfl ?_
        refine pe_minT c_T_41 d_T_beginningFrom_29 (by first | exact hB _ _ | exact hB0 _ _ | exact hBt _ _ | exact ⟨by omega, by omega⟩) (by first | exact hB _ _ | exact hB0 _ _ | exact hBt _ _ | exact ⟨by omega, by omega⟩) (fun z29 hz29 => ?_)
        refine pe_ri d_T_beginningFrom_32 ?_
        exact ⟨rfl, by (try dsimp only); omega⟩
      · skip
        refine pe_iinc d_T_beginningFrom_18 rfl ?_
        refine pe_goto (t := 2) d_T_beginningFrom_21 ?_
        exact ih _ (by omega) (by omega)
  refine pe_iload_n d_T_beginningFrom_0 rfl ?_
  refine pe_istore_n d_T_beginningFrom_1 ?_
  exact J2 _ (by omega)
