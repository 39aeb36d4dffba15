/-! p1: exact contracts of the class's history -/
theorem x_H_newSlot {σ : pe_H} (hB : pe_B σ) (hh : σ 5 5 = 0 ∧ 0 ≤ σ 5 6 ∧ σ 5 6 ≤ 11) : pe_M m_H_newSlot [pe_r 5] σ (pe_qi (fun z σ' => pe_B σ' ∧ (∀ b, b ∉ [5] → σ' b = σ b) ∧ z = σ 5 6 ∧ σ' 5 5 = 0 ∧ σ' 5 6 = σ 5 6 + 1)) := by
  refine pe_in0 (lv := [some (pe_r 5)]) ?_
  have hB0 := hB
  refine pe_aload_n d_H_newSlot_0 rfl ?_
  refine pe_geti f_H_38 d_H_newSlot_1 rfl rfl 6 rfl ?_
  refine pe_bipush d_H_newSlot_4 ?_
  refine pe_icmp_ge (t := 22) d_H_newSlot_6 (by first | exact hB _ _ | exact hB0 _ _ | exact hBt _ _ | exact ⟨by omega, by omega⟩) (by first | exact hB _ _ | exact hB0 _ _ | exact hBt _ _ | exact ⟨by omega, by omega⟩) (fun h6 => ?_) (fun h6 => ?_)
  · skip
    exfalso; omega
  · skip
    refine pe_aload_n d_H_newSlot_9 rfl ?_
    refine pe_dup d_H_newSlot_10 ?_
    refine pe_geti f_H_38 d_H_newSlot_11 rfl rfl 6 rfl ?_
    refine pe_iconst d_H_newSlot_14 ?_
    refine pe_iadd d_H_newSlot_15 ?_
    refine pe_putiT f_H_38 g_4_6 d_H_newSlot_16 rfl rfl 6 rfl hB (by first | exact hB _ _ | exact hB0 _ _ | exact hBt _ _ | exact ⟨by omega, by omega⟩) (fun σ16 hB e16 o16 f16 => ?_)
    try have u16_0 : σ16 5 5 = σ 5 5 := by first | exact o16 5 (by decide) | exact congrFun (f16 5 (by decide)) 5
    try have u16_1 : σ16 5 6 = σ 5 6 := by first | exact o16 6 (by decide) | exact congrFun (f16 5 (by decide)) 6
    refine pe_goto (t := 35) d_H_newSlot_19 ?_
    refine pe_aload_n d_H_newSlot_35 rfl ?_
    refine pe_geti f_H_42 d_H_newSlot_36 rfl rfl 5 rfl ?_
    refine pe_aload_n d_H_newSlot_39 rfl ?_
    refine pe_geti f_H_38 d_H_newSlot_40 rfl rfl 6 rfl ?_
    refine pe_iadd d_H_newSlot_43 ?_
    refine pe_iconst d_H_newSlot_44 ?_
    refine pe_isub d_H_newSlot_45 ?_
    refine pe_bipush d_H_newSlot_46 ?_
    refine pe_iremN d_H_newSlot_48 (by omega) (by omega) ?_
    refine pe_ri d_H_newSlot_49 ?_
    exact ⟨hB, (fun b hb => (f16 b (by simp at hb ⊢; try omega)).trans (rfl)), by omega⟩
theorem x_H_keepInsertion {σ : pe_H} {p c : Int} (hB : pe_B σ) (hh : σ 5 5 = 0 ∧ 0 ≤ σ 5 6 ∧ σ 5 6 ≤ 11) (hp : 0 ≤ p ∧ p ≤ 200) (hc : 0 ≤ c ∧ c ≤ 200) : pe_M m_H_keepInsertion [pe_r 5, pe_i p, pe_i c] σ (pe_qv (fun σ' => pe_B σ' ∧ (∀ b, b ∉ [5, 6, 7, 8, 9] → σ' b = σ b) ∧ pe_hk σ σ' p c p 0)) := by
  refine pe_in0 (lv := [some (pe_r 5), some (pe_i p), some (pe_i c), none]) ?_
  have hB0 := hB
  refine pe_aload_n d_H_keepInsertion_0 rfl ?_
  refine pe_v0i d_H_keepInsertion_1 c_H_28 i_H_newSlot s_H_newSlot rfl rfl (x_H_newSlot hB (by omega)) (fun z1 σ1 hz1 => ?_)
  obtain ⟨hB, f1, x1⟩ := hz1
  skip
  refine pe_istore_n d_H_keepInsertion_4 ?_
  refine pe_aload_n d_H_keepInsertion_5 rfl ?_
  refine pe_getr f_H_9 d_H_keepInsertion_6 rfl rfl ?_
  refine pe_iload_n d_H_keepInsertion_9 rfl ?_
  refine pe_iload_n d_H_keepInsertion_10 rfl ?_
  refine pe_iastT d_H_keepInsertion_11 rfl (by omega) (by omega) hB (by first | exact hB _ _ | exact hB0 _ _ | exact hBt _ _ | exact ⟨by omega, by omega⟩) (fun σ11 hB e11 o11 f11 => ?_)
  refine pe_aload_n d_H_keepInsertion_12 rfl ?_
  refine pe_getr f_H_15 d_H_keepInsertion_13 rfl rfl ?_
  refine pe_iload_n d_H_keepInsertion_16 rfl ?_
  refine pe_iload_n d_H_keepInsertion_17 rfl ?_
  refine pe_iastT d_H_keepInsertion_18 rfl (by omega) (by omega) hB (by first | exact hB _ _ | exact hB0 _ _ | exact hBt _ _ | exact ⟨by omega, by omega⟩) (fun σ18 hB e18 o18 f18 => ?_)
  refine pe_aload_n d_H_keepInsertion_19 rfl ?_
  refine pe_getr f_H_18 d_H_keepInsertion_20 rfl rfl ?_
  refine pe_iload_n d_H_keepInsertion_23 rfl ?_
  refine pe_iload_n d_H_keepInsertion_24 rfl ?_
  refine pe_iastT d_H_keepInsertion_25 rfl (by omega) (by omega) hB (by first | exact hB _ _ | exact hB0 _ _ | exact hBt _ _ | exact ⟨by omega, by omega⟩) (fun σ25 hB e25 o25 f25 => ?_)
  refine pe_aload_n d_H_keepInsertion_26 rfl ?_
  refine pe_getr f_H_21 d_H_keepInsertion_27 rfl rfl ?_
  refine pe_iload_n d_H_keepInsertion_30 rfl ?_
  refine pe_iconst d_H_keepInsertion_31 ?_
  refine pe_zastT d_H_keepInsertion_32 rfl (by omega) (by omega) (by first | exact Or.inl rfl | exact Or.inr rfl | omega) hB (fun σ32 hB e32 o32 f32 => ?_)
  refine pe_rv d_H_keepInsertion_33 ?_
  have ez := x1.1
  rw [ez] at e11 o11 e18 o18 e25 o25 e32 o32
  exact ⟨hB, (fun b hb => (f32 b (by simp at hb ⊢; try omega)).trans ((f25 b (by simp at hb ⊢; try omega)).trans ((f18 b (by simp at hb ⊢; try omega)).trans ((f11 b (by simp at hb ⊢; try omega)).trans ((f1 b (by simp at hb ⊢; try omega)).trans (rfl)))))), ⟨⟨(congrFun ((f32 5 (by decide)).trans ((f25 5 (by decide)).trans ((f18 5 (by decide)).trans ((f11 5 (by decide)).trans (rfl))))) 5).trans x1.2.1, (congrFun ((f32 5 (by decide)).trans ((f25 5 (by decide)).trans ((f18 5 (by decide)).trans ((f11 5 (by decide)).trans (rfl))))) 6).trans x1.2.2⟩, ⟨(congrFun ((f32 6 (by decide)).trans ((f25 6 (by decide)).trans ((f18 6 (by decide)).trans (rfl)))) _).trans e11, (congrFun ((f32 7 (by decide)).trans ((f25 7 (by decide)).trans (rfl))) _).trans e18, (congrFun ((f32 8 (by decide)).trans (rfl)) _).trans e25, (congrFun (rfl) _).trans e32⟩, fun k hk => ⟨(congrFun ((f32 6 (by decide)).trans ((f25 6 (by decide)).trans ((f18 6 (by decide)).trans (rfl)))) k).trans ((o11 k hk).trans (congrFun (f1 6 (by decide)) k)), (congrFun ((f32 7 (by decide)).trans ((f25 7 (by decide)).trans (rfl))) k).trans ((o18 k hk).trans ((congrFun (f11 7 (by decide)) k).trans (congrFun (f1 7 (by decide)) k))), (congrFun ((f32 8 (by decide)).trans (rfl)) k).trans ((o25 k hk).trans ((congrFun (f18 8 (by decide)) k).trans ((congrFun (f11 8 (by decide)) k).trans (congrFun (f1 8 (by decide)) k)))), (congrFun (rfl) k).trans ((o32 k hk).trans ((congrFun (f25 9 (by decide)) k).trans ((congrFun (f18 9 (by decide)) k).trans ((congrFun (f11 9 (by decide)) k).trans (congrFun (f1 9 (by decide)) k)))))⟩⟩⟩
theorem x_H_keepRemoval {σ : pe_H} {p c u : Int} (hB : pe_B σ) (hh : σ 5 5 = 0 ∧ 0 ≤ σ 5 6 ∧ σ 5 6 ≤ 11) (hl : σ 3 1 ≤ 200) (hp : 0 ≤ p ∧ 0 ≤ c ∧ p + c ≤ σ 3 1) (hu : 0 ≤ u ∧ u ≤ 200) : pe_M m_H_keepRemoval [pe_r 5, pe_r 3, pe_i p, pe_i c, pe_i u] σ (pe_qv (fun σ' => pe_B σ' ∧ (∀ b, b ∉ [5, 6, 7, 8, 9, 10] → σ' b = σ b) ∧ pe_hk σ σ' p c u 1 ∧ (∀ j, 0 ≤ j → j < c → σ' 10 (σ 5 6 * 200 + j) = σ 4 (p + j)) ∧ ∀ j, j < σ 5 6 * 200 → σ' 10 j = σ 10 j)) := by
  refine pe_in0 (lv := [some (pe_r 5), some (pe_r 3), some (pe_i p), some (pe_i c), some (pe_i u), none]) ?_
  have hB0 := hB
  refine pe_aload_n d_H_keepRemoval_0 rfl ?_
  refine pe_v0i d_H_keepRemoval_1 c_H_28 i_H_newSlot s_H_newSlot rfl rfl (x_H_newSlot hB (by omega)) (fun z1 σ1 hz1 => ?_)
  obtain ⟨hB, f1, x1⟩ := hz1
  try have u1_0 : σ1 3 1 = σ 3 1 := by first | exact o1 1 (by decide) | exact congrFun (f1 3 (by decide)) 1
  skip
  refine pe_istore d_H_keepRemoval_4 ?_
  refine pe_aload_n d_H_keepRemoval_6 rfl ?_
  refine pe_getr f_H_9 d_H_keepRemoval_7 rfl rfl ?_
  refine pe_iload d_H_keepRemoval_10 rfl ?_
  refine pe_iload_n d_H_keepRemoval_12 rfl ?_
  refine pe_iastT d_H_keepRemoval_13 rfl (by omega) (by omega) hB (by first | exact hB _ _ | exact hB0 _ _ | exact hBt _ _ | exact ⟨by omega, by omega⟩) (fun σ13 hB e13 o13 f13 => ?_)
  try have u13_0 : σ13 3 1 = σ1 3 1 := by first | exact o13 1 (by decide) | exact congrFun (f13 3 (by decide)) 1
  refine pe_aload_n d_H_keepRemoval_14 rfl ?_
  refine pe_getr f_H_15 d_H_keepRemoval_15 rfl rfl ?_
  refine pe_iload d_H_keepRemoval_18 rfl ?_
  refine pe_iload_n d_H_keepRemoval_20 rfl ?_
  refine pe_iastT d_H_keepRemoval_21 rfl (by omega) (by omega) hB (by first | exact hB _ _ | exact hB0 _ _ | exact hBt _ _ | exact ⟨by omega, by omega⟩) (fun σ21 hB e21 o21 f21 => ?_)
  try have u21_0 : σ21 3 1 = σ13 3 1 := by first | exact o21 1 (by decide) | exact congrFun (f21 3 (by decide)) 1
  refine pe_aload_n d_H_keepRemoval_22 rfl ?_
  refine pe_getr f_H_18 d_H_keepRemoval_23 rfl rfl ?_
  refine pe_iload d_H_keepRemoval_26 rfl ?_
  refine pe_iload d_H_keepRemoval_28 rfl ?_
  refine pe_iastT d_H_keepRemoval_30 rfl (by omega) (by omega) hB (by first | exact hB _ _ | exact hB0 _ _ | exact hBt _ _ | exact ⟨by omega, by omega⟩) (fun σ30 hB e30 o30 f30 => ?_)
  try have u30_0 : σ30 3 1 = σ21 3 1 := by first | exact o30 1 (by decide) | exact congrFun (f30 3 (by decide)) 1
  refine pe_aload_n d_H_keepRemoval_31 rfl ?_
  refine pe_getr f_H_21 d_H_keepRemoval_32 rfl rfl ?_
  refine pe_iload d_H_keepRemoval_35 rfl ?_
  refine pe_iconst d_H_keepRemoval_37 ?_
  refine pe_zastT d_H_keepRemoval_38 rfl (by omega) (by omega) (by first | exact Or.inl rfl | exact Or.inr rfl | omega) hB (fun σ38 hB e38 o38 f38 => ?_)
  try have u38_0 : σ38 3 1 = σ30 3 1 := by first | exact o38 1 (by decide) | exact congrFun (f38 3 (by decide)) 1
  refine pe_aload_n d_H_keepRemoval_39 rfl ?_
  refine pe_aload_n d_H_keepRemoval_40 rfl ?_
  refine pe_getr f_H_25 d_H_keepRemoval_41 rfl rfl ?_
  refine pe_iload d_H_keepRemoval_44 rfl ?_
  refine pe_sipush d_H_keepRemoval_46 ?_
  refine pe_imul d_H_keepRemoval_49 ?_
  refine pe_iload_n d_H_keepRemoval_50 rfl ?_
  refine pe_iload_n d_H_keepRemoval_51 rfl ?_
  refine pe_v4v d_H_keepRemoval_52 c_H_32 i_T_copyTo s_T_copyTo rfl rfl (x_T_copyTo_10 hB (by omega) (by omega) (by omega)) (fun σ52 hz52 => ?_)
  obtain ⟨hB, f52, x52⟩ := hz52
  try have u52_0 : σ52 3 1 = σ38 3 1 := by first | exact o52 1 (by decide) | exact congrFun (f52 3 (by decide)) 1
  refine pe_rv d_H_keepRemoval_55 ?_
  have ez := x1.1
  rw [ez] at e13 o13 e21 o21 e30 o30 e38 o38
  rw [ez] at x52
  exact ⟨hB, (fun b hb => (f52 b (by simp at hb ⊢; try omega)).trans ((f38 b (by simp at hb ⊢; try omega)).trans ((f30 b (by simp at hb ⊢; try omega)).trans ((f21 b (by simp at hb ⊢; try omega)).trans ((f13 b (by simp at hb ⊢; try omega)).trans ((f1 b (by simp at hb ⊢; try omega)).trans (rfl))))))), ⟨⟨(congrFun ((f52 5 (by decide)).trans ((f38 5 (by decide)).trans ((f30 5 (by decide)).trans ((f21 5 (by decide)).trans ((f13 5 (by decide)).trans (rfl)))))) 5).trans x1.2.1, (congrFun ((f52 5 (by decide)).trans ((f38 5 (by decide)).trans ((f30 5 (by decide)).trans ((f21 5 (by decide)).trans ((f13 5 (by decide)).trans (rfl)))))) 6).trans x1.2.2⟩, ⟨(congrFun ((f52 6 (by decide)).trans ((f38 6 (by decide)).trans ((f30 6 (by decide)).trans ((f21 6 (by decide)).trans (rfl))))) _).trans e13, (congrFun ((f52 7 (by decide)).trans ((f38 7 (by decide)).trans ((f30 7 (by decide)).trans (rfl)))) _).trans e21, (congrFun ((f52 8 (by decide)).trans ((f38 8 (by decide)).trans (rfl))) _).trans e30, (congrFun ((f52 9 (by decide)).trans (rfl)) _).trans e38⟩, fun k hk => ⟨(congrFun ((f52 6 (by decide)).trans ((f38 6 (by decide)).trans ((f30 6 (by decide)).trans ((f21 6 (by decide)).trans (rfl))))) k).trans ((o13 k hk).trans (congrFun (f1 6 (by decide)) k)), (congrFun ((f52 7 (by decide)).trans ((f38 7 (by decide)).trans ((f30 7 (by decide)).trans (rfl)))) k).trans ((o21 k hk).trans ((congrFun (f13 7 (by decide)) k).trans (congrFun (f1 7 (by decide)) k))), (congrFun ((f52 8 (by decide)).trans ((f38 8 (by decide)).trans (rfl))) k).trans ((o30 k hk).trans ((congrFun (f21 8 (by decide)) k).trans ((congrFun (f13 8 (by decide)) k).trans (congrFun (f1 8 (by decide)) k)))), (congrFun ((f52 9 (by decide)).trans (rfl)) k).trans ((o38 k hk).trans ((congrFun (f30 9 (by decide)) k).trans ((congrFun (f21 9 (by decide)) k).trans ((congrFun (f13 9 (by decide)) k).trans (congrFun (f1 9 (by decide)) k)))))⟩⟩, fun j h1 h2 => by
    rw [x52, if_pos (by omega), f38 4 (by decide), f30 4 (by decide), f21 4 (by decide), f13 4 (by decide), f1 4 (by decide)]
    exact congrArg (σ 4) (by omega), fun j h1 => by
    rw [x52, if_neg (by omega), f38 10 (by decide), f30 10 (by decide), f21 10 (by decide), f13 10 (by decide), f1 10 (by decide)]⟩
theorem x_H_undoIn {σ : pe_H} (hB : pe_B σ) (hh : σ 5 5 = 0 ∧ 1 ≤ σ 5 6 ∧ σ 5 6 ≤ 12) (hl : 0 ≤ σ 3 1 ∧ σ 3 1 ≤ 200) (hv : 0 ≤ σ 6 (σ 5 6 - 1) ∧ 0 ≤ σ 7 (σ 5 6 - 1) ∧ 0 ≤ σ 8 (σ 5 6 - 1) ∧ (σ 9 (σ 5 6 - 1) = 0 → σ 6 (σ 5 6 - 1) + σ 7 (σ 5 6 - 1) ≤ σ 3 1) ∧ (σ 9 (σ 5 6 - 1) ≠ 0 → σ 6 (σ 5 6 - 1) ≤ σ 3 1 ∧ σ 3 1 + σ 7 (σ 5 6 - 1) ≤ 200)) : pe_M m_H_undoIn [pe_r 5, pe_r 3] σ (pe_qi (fun z σ' => pe_B σ' ∧ (∀ b, b ∉ [3, 4, 5] → σ' b = σ b) ∧ (z = σ 8 (σ 5 6 - 1) ∧ σ' 5 5 = 0 ∧ σ' 5 6 = σ 5 6 - 1) ∧ ((σ 9 (σ 5 6 - 1) ≠ 0 ∧ pe_ins σ σ' (σ 6 (σ 5 6 - 1)) (σ 7 (σ 5 6 - 1)) (fun i => σ 10 ((σ 5 6 - 1) * 200 + i))) ∨ (σ 9 (σ 5 6 - 1) = 0 ∧ pe_del σ σ' (σ 6 (σ 5 6 - 1)) (σ 7 (σ 5 6 - 1)))))) := by
  refine pe_in0 (lv := [some (pe_r 5), some (pe_r 3), none]) ?_
  have hB0 := hB
  refine pe_aload_n d_H_undoIn_0 rfl ?_
  refine pe_geti f_H_38 d_H_undoIn_1 rfl rfl 6 rfl ?_
  refine pe_if_ne (t := 9) d_H_undoIn_4 (by first | exact hB _ _ | exact hB0 _ _ | exact hBt _ _ | exact ⟨by omega, by omega⟩) (fun h4 => ?_) (fun h4 => ?_)
  · skip
    refine pe_aload_n d_H_undoIn_9 rfl ?_
    refine pe_dup d_H_undoIn_10 ?_
    refine pe_geti f_H_38 d_H_undoIn_11 rfl rfl 6 rfl ?_
    refine pe_iconst d_H_undoIn_14 ?_
    refine pe_isub d_H_undoIn_15 ?_
    refine pe_putiT f_H_38 g_4_6 d_H_undoIn_16 rfl rfl 6 rfl hB (by first | exact hB _ _ | exact hB0 _ _ | exact hBt _ _ | exact ⟨by omega, by omega⟩) (fun σ16 hB e16 o16 f16 => ?_)
    try have u16_0 : σ16 5 5 = σ 5 5 := by first | exact o16 5 (by decide) | exact congrFun (f16 5 (by decide)) 5
    try have u16_1 : σ16 5 6 = σ 5 6 := by first | exact o16 6 (by decide) | exact congrFun (f16 5 (by decide)) 6
    try have u16_2 : σ16 3 1 = σ 3 1 := by first | exact o16 1 (by decide) | exact congrFun (f16 3 (by decide)) 1
    refine pe_aload_n d_H_undoIn_19 rfl ?_
    refine pe_geti f_H_42 d_H_undoIn_20 rfl rfl 5 rfl ?_
    refine pe_aload_n d_H_undoIn_23 rfl ?_
    refine pe_geti f_H_38 d_H_undoIn_24 rfl rfl 6 rfl ?_
    refine pe_iadd d_H_undoIn_27 ?_
    refine pe_bipush d_H_undoIn_28 ?_
    refine pe_iremN d_H_undoIn_30 (by omega) (by omega) ?_
    have es : (σ16 5 5 + σ16 5 6) % 12 = (σ 5 6 - 1) := by omega
    rw [es]
    have q6 : σ16 6 (σ 5 6 - 1) = σ 6 (σ 5 6 - 1) := congrFun (f16 6 (by decide)) _
    have q7 : σ16 7 (σ 5 6 - 1) = σ 7 (σ 5 6 - 1) := congrFun (f16 7 (by decide)) _
    have q8 : σ16 8 (σ 5 6 - 1) = σ 8 (σ 5 6 - 1) := congrFun (f16 8 (by decide)) _
    have q9 : σ16 9 (σ 5 6 - 1) = σ 9 (σ 5 6 - 1) := congrFun (f16 9 (by decide)) _
    refine pe_istore_n d_H_undoIn_31 ?_
    refine pe_aload_n d_H_undoIn_32 rfl ?_
    refine pe_getr f_H_21 d_H_undoIn_33 rfl rfl ?_
    refine pe_iload_n d_H_undoIn_36 rfl ?_
    refine pe_zald d_H_undoIn_37 rfl (by omega) (by omega) ?_
    refine pe_if_eq (t := 69) d_H_undoIn_38 (by first | exact hB _ _ | exact hB0 _ _ | exact hBt _ _ | exact ⟨by omega, by omega⟩) (fun h38 => ?_) (fun h38 => ?_)
    · skip
      refine pe_aload_n d_H_undoIn_69 rfl ?_
      refine pe_aload_n d_H_undoIn_70 rfl ?_
      refine pe_getr f_H_9 d_H_undoIn_71 rfl rfl ?_
      refine pe_iload_n d_H_undoIn_74 rfl ?_
      refine pe_iald d_H_undoIn_75 rfl (by omega) (by omega) ?_
      refine pe_aload_n d_H_undoIn_76 rfl ?_
      refine pe_getr f_H_15 d_H_undoIn_77 rfl rfl ?_
      refine pe_iload_n d_H_undoIn_80 rfl ?_
      refine pe_iald d_H_undoIn_81 rfl (by omega) (by omega) ?_
      refine pe_v2v d_H_undoIn_82 c_H_49 i_T_remove s_T_remove rfl rfl (x_T_remove hB (by omega) (by omega)) (fun σ82 hz82 => ?_)
      obtain ⟨hB, f82, x82⟩ := hz82
      try have u82_0 : σ82 5 5 = σ16 5 5 := by first | exact o82 5 (by decide) | exact congrFun (f82 5 (by decide)) 5
      try have u82_1 : σ82 5 6 = σ16 5 6 := by first | exact o82 6 (by decide) | exact congrFun (f82 5 (by decide)) 6
      try have u82_2 : σ82 3 1 = σ16 3 1 := by first | exact o82 1 (by decide) | exact congrFun (f82 3 (by decide)) 1
      rw [q6, q7] at x82
      unfold pe_del at x82
      rw [f16 3 (by decide), f16 4 (by decide)] at x82
      have w8 := congrFun (f82 8 (by decide)) (σ 5 6 - 1)
      refine pe_aload_n d_H_undoIn_85 rfl ?_
      refine pe_getr f_H_18 d_H_undoIn_86 rfl rfl ?_
      refine pe_iload_n d_H_undoIn_89 rfl ?_
      refine pe_iald d_H_undoIn_90 rfl (by omega) (by omega) ?_
      refine pe_ri d_H_undoIn_91 ?_
      first | exact ⟨hB, (fun b hb => (f82 b (by simp at hb ⊢; try omega)).trans ((f16 b (by simp at hb ⊢; try omega)).trans (rfl))), by omega, Or.inl ⟨by omega, x63⟩⟩ | exact ⟨hB, (fun b hb => (f82 b (by simp at hb ⊢; try omega)).trans ((f16 b (by simp at hb ⊢; try omega)).trans (rfl))), by omega, Or.inr ⟨by omega, x82⟩⟩
    · skip
      refine pe_aload_n d_H_undoIn_41 rfl ?_
      refine pe_aload_n d_H_undoIn_42 rfl ?_
      refine pe_getr f_H_9 d_H_undoIn_43 rfl rfl ?_
      refine pe_iload_n d_H_undoIn_46 rfl ?_
      refine pe_iald d_H_undoIn_47 rfl (by omega) (by omega) ?_
      refine pe_aload_n d_H_undoIn_48 rfl ?_
      refine pe_getr f_H_25 d_H_undoIn_49 rfl rfl ?_
      refine pe_iload_n d_H_undoIn_52 rfl ?_
      refine pe_sipush d_H_undoIn_53 ?_
      refine pe_imul d_H_undoIn_56 ?_
      refine pe_aload_n d_H_undoIn_57 rfl ?_
      refine pe_getr f_H_15 d_H_undoIn_58 rfl rfl ?_
      refine pe_iload_n d_H_undoIn_61 rfl ?_
      refine pe_iald d_H_undoIn_62 rfl (by omega) (by omega) ?_
      refine pe_v4v d_H_undoIn_63 c_H_45 i_T_insert s_T_insert rfl rfl (x_T_insert_10 hB (by omega) (by omega) (by omega)) (fun σ63 hz63 => ?_)
      obtain ⟨hB, f63, x63⟩ := hz63
      try have u63_0 : σ63 5 5 = σ16 5 5 := by first | exact o63 5 (by decide) | exact congrFun (f63 5 (by decide)) 5
      try have u63_1 : σ63 5 6 = σ16 5 6 := by first | exact o63 6 (by decide) | exact congrFun (f63 5 (by decide)) 6
      try have u63_2 : σ63 3 1 = σ16 3 1 := by first | exact o63 1 (by decide) | exact congrFun (f63 3 (by decide)) 1
      rw [q6, q7] at x63
      unfold pe_ins at x63
      rw [f16 3 (by decide), f16 4 (by decide), f16 10 (by decide)] at x63
      have w8 := congrFun (f63 8 (by decide)) (σ 5 6 - 1)
      refine pe_goto (t := 85) d_H_undoIn_66 ?_
      refine pe_aload_n d_H_undoIn_85 rfl ?_
      refine pe_getr f_H_18 d_H_undoIn_86 rfl rfl ?_
      refine pe_iload_n d_H_undoIn_89 rfl ?_
      refine pe_iald d_H_undoIn_90 rfl (by omega) (by omega) ?_
      refine pe_ri d_H_undoIn_91 ?_
      first | exact ⟨hB, (fun b hb => (f63 b (by simp at hb ⊢; try omega)).trans ((f16 b (by simp at hb ⊢; try omega)).trans (rfl))), by omega, Or.inl ⟨by omega, x63⟩⟩ | exact ⟨hB, (fun b hb => (f63 b (by simp at hb ⊢; try omega)).trans ((f16 b (by simp at hb ⊢; try omega)).trans (rfl))), by omega, Or.inr ⟨by omega, x82⟩⟩
  · skip
    exfalso; omega
theorem x_H_undoIn0 {σ : pe_H} (hB : pe_B σ) (hh : σ 5 6 = 0) : pe_M m_H_undoIn [pe_r 5, pe_r 3] σ (pe_qp σ (fun z => z = -1)) := by
  refine pe_in0 (lv := [some (pe_r 5), some (pe_r 3), none]) ?_
  have hB0 := hB
  refine pe_aload_n d_H_undoIn_0 rfl ?_
  refine pe_geti f_H_38 d_H_undoIn_1 rfl rfl 6 rfl ?_
  refine pe_if_ne (t := 9) d_H_undoIn_4 (by first | exact hB _ _ | exact hB0 _ _ | exact hBt _ _ | exact ⟨by omega, by omega⟩) (fun h4 => ?_) (fun h4 => ?_)
  · skip
    exfalso; omega
  · skip
    refine pe_iconst d_H_undoIn_7 ?_
    refine pe_ri d_H_undoIn_8 ?_
    exact ⟨rfl, rfl⟩
