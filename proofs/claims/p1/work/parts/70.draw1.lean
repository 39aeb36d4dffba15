/-! p1: exact contracts of the class for the first drawing, by program (wip/p1/spec1.py) -/
theorem pe_fillx {f g : Int → Int} {i v : Int} (h : ∀ j, 0 ≤ j → j < i → f j = v) (e : g i = v) (o : ∀ j, j ≠ i → g j = f j) : ∀ j, 0 ≤ j → j < i + 1 → g j = v := by
  intro j h1 h2
  by_cases q : j = i
  · rw [q]; exact e
  · rw [o j q]; exact h j h1 (by omega)
theorem x_A_fill_19 {σ : pe_H} {v : Int} (hB : pe_B σ) (hv : pe_R v) : pe_M m_A_fill [pe_r 19, pe_i v] σ (pe_qv (fun σ' => pe_B σ' ∧ (∀ b, b ∉ [19] → σ' b = σ b) ∧ ∀ j, 0 ≤ j → j < 192 → σ' 19 j = v)) := by
  refine pe_in0 (lv := [some (pe_r 19), some (pe_i v), none, none]) ?_
  have hB0 := hB
  have J5 : ∀ fs : Int × pe_H, ((0 ≤ fs.1 ∧ fs.1 ≤ 192) ∧ pe_B fs.2 ∧ (∀ b, b ∉ [19] → fs.2 b = σ b) ∧ ∀ j, 0 ≤ j → j < fs.1 → fs.2 19 j = v) → pe_G m_A_fill 5 [some (pe_r 19), some (pe_i v), some (pe_i fs.1), some (pe_i 192)] [] fs.2 (pe_qv (fun σ' => pe_B σ' ∧ (∀ b, b ∉ [19] → σ' b = σ b) ∧ ∀ j, 0 ≤ j → j < 192 → σ' 19 j = v)) := by
    refine pe_loop (fun fs : Int × pe_H => (300 - fs.1).toNat) _ _ ?_
    intro fs hI ih
    obtain ⟨f, τ⟩ := fs
    dsimp only at hI ⊢
    obtain ⟨hI1, hB, hfr, hA⟩ := hI
    have hBt := hB
    refine pe_iload_n d_A_fill_5 rfl ?_
    refine pe_iload_n d_A_fill_6 rfl ?_
    refine pe_icmp_ge (t := 20) d_A_fill_7 (by first | exact hB _ _ | exact hB0 _ _ | exact hBt _ _ | exact ⟨by omega, by omega⟩) (by first | exact hB _ _ | exact hB0 _ _ | exact hBt _ _ | exact ⟨by omega, by omega⟩) (fun h7 => ?_) (fun h7 => ?_)
    · skip
      refine pe_rv d_A_fill_20 ?_
      exact ⟨hB, hfr, fun j h1 h2 => hA j h1 (by omega)⟩
    · skip
      refine pe_aload_n d_A_fill_10 rfl ?_
      refine pe_iload_n d_A_fill_11 rfl ?_
      refine pe_iload_n d_A_fill_12 rfl ?_
      refine pe_iastT d_A_fill_13 rfl (by omega) (by omega) hB (by first | exact hB _ _ | exact hB0 _ _ | exact hBt _ _ | exact ⟨by omega, by omega⟩) (fun σ13 hB e13 o13 f13 => ?_)
      refine pe_iinc d_A_fill_14 rfl ?_
      refine pe_goto (t := 5) d_A_fill_17 ?_
      exact ih (_, _) ⟨by (try dsimp only); omega, hB, (fun b hb => (f13 b (by simp at hb ⊢; try omega)).trans (hfr b hb)), pe_fillx hA e13 o13⟩ (by (try dsimp only); omega)
  refine pe_iconst d_A_fill_0 ?_
  refine pe_istore_n d_A_fill_1 ?_
  refine pe_aload_n d_A_fill_2 rfl ?_
  refine pe_alen (t0 := 0) d_A_fill_3 rfl (fun _ => rfl) ?_
  refine pe_istore_n d_A_fill_4 ?_
  exact J5 (_, _) ⟨by (try dsimp only); omega, hB, fun _ _ => rfl, fun j h1 h2 => by (try dsimp only at h2); omega⟩
theorem x_A_fill_20 {σ : pe_H} {v : Int} (hB : pe_B σ) (hv : pe_R v) : pe_M m_A_fill [pe_r 20, pe_i v] σ (pe_qv (fun σ' => pe_B σ' ∧ (∀ b, b ∉ [20] → σ' b = σ b) ∧ ∀ j, 0 ≤ j → j < 192 → σ' 20 j = v)) := by
  refine pe_in0 (lv := [some (pe_r 20), some (pe_i v), none, none]) ?_
  have hB0 := hB
  have J5 : ∀ fs : Int × pe_H, ((0 ≤ fs.1 ∧ fs.1 ≤ 192) ∧ pe_B fs.2 ∧ (∀ b, b ∉ [20] → fs.2 b = σ b) ∧ ∀ j, 0 ≤ j → j < fs.1 → fs.2 20 j = v) → pe_G m_A_fill 5 [some (pe_r 20), some (pe_i v), some (pe_i fs.1), some (pe_i 192)] [] fs.2 (pe_qv (fun σ' => pe_B σ' ∧ (∀ b, b ∉ [20] → σ' b = σ b) ∧ ∀ j, 0 ≤ j → j < 192 → σ' 20 j = v)) := by
    refine pe_loop (fun fs : Int × pe_H => (300 - fs.1).toNat) _ _ ?_
    intro fs hI ih
    obtain ⟨f, τ⟩ := fs
    dsimp only at hI ⊢
    obtain ⟨hI1, hB, hfr, hA⟩ := hI
    have hBt := hB
    refine pe_iload_n d_A_fill_5 rfl ?_
    refine pe_iload_n d_A_fill_6 rfl ?_
    refine pe_icmp_ge (t := 20) d_A_fill_7 (by first | exact hB _ _ | exact hB0 _ _ | exact hBt _ _ | exact ⟨by omega, by omega⟩) (by first | exact hB _ _ | exact hB0 _ _ | exact hBt _ _ | exact ⟨by omega, by omega⟩) (fun h7 => ?_) (fun h7 => ?_)
    · skip
      refine pe_rv d_A_fill_20 ?_
      exact ⟨hB, hfr, fun j h1 h2 => hA j h1 (by omega)⟩
    · skip
      refine pe_aload_n d_A_fill_10 rfl ?_
      refine pe_iload_n d_A_fill_11 rfl ?_
      refine pe_iload_n d_A_fill_12 rfl ?_
      refine pe_iastT d_A_fill_13 rfl (by omega) (by omega) hB (by first | exact hB _ _ | exact hB0 _ _ | exact hBt _ _ | exact ⟨by omega, by omega⟩) (fun σ13 hB e13 o13 f13 => ?_)
      refine pe_iinc d_A_fill_14 rfl ?_
      refine pe_goto (t := 5) d_A_fill_17 ?_
      exact ih (_, _) ⟨by (try dsimp only); omega, hB, (fun b hb => (f13 b (by simp at hb ⊢; try omega)).trans (hfr b hb)), pe_fillx hA e13 o13⟩ (by (try dsimp only); omega)
  refine pe_iconst d_A_fill_0 ?_
  refine pe_istore_n d_A_fill_1 ?_
  refine pe_aload_n d_A_fill_2 rfl ?_
  refine pe_alen (t0 := 0) d_A_fill_3 rfl (fun _ => rfl) ?_
  refine pe_istore_n d_A_fill_4 ?_
  exact J5 (_, _) ⟨by (try dsimp only); omega, hB, fun _ _ => rfl, fun j h1 h2 => by (try dsimp only at h2); omega⟩
theorem x_A_fill_26 {σ : pe_H} {v : Int} (hB : pe_B σ) (hv : pe_R v) : pe_M m_A_fill [pe_r 26, pe_i v] σ (pe_qv (fun σ' => pe_B σ' ∧ (∀ b, b ∉ [26] → σ' b = σ b) ∧ ∀ j, 0 ≤ j → j < 192 → σ' 26 j = v)) := by
  refine pe_in0 (lv := [some (pe_r 26), some (pe_i v), none, none]) ?_
  have hB0 := hB
  have J5 : ∀ fs : Int × pe_H, ((0 ≤ fs.1 ∧ fs.1 ≤ 192) ∧ pe_B fs.2 ∧ (∀ b, b ∉ [26] → fs.2 b = σ b) ∧ ∀ j, 0 ≤ j → j < fs.1 → fs.2 26 j = v) → pe_G m_A_fill 5 [some (pe_r 26), some (pe_i v), some (pe_i fs.1), some (pe_i 192)] [] fs.2 (pe_qv (fun σ' => pe_B σ' ∧ (∀ b, b ∉ [26] → σ' b = σ b) ∧ ∀ j, 0 ≤ j → j < 192 → σ' 26 j = v)) := by
    refine pe_loop (fun fs : Int × pe_H => (300 - fs.1).toNat) _ _ ?_
    intro fs hI ih
    obtain ⟨f, τ⟩ := fs
    dsimp only at hI ⊢
    obtain ⟨hI1, hB, hfr, hA⟩ := hI
    have hBt := hB
    refine pe_iload_n d_A_fill_5 rfl ?_
    refine pe_iload_n d_A_fill_6 rfl ?_
    refine pe_icmp_ge (t := 20) d_A_fill_7 (by first | exact hB _ _ | exact hB0 _ _ | exact hBt _ _ | exact ⟨by omega, by omega⟩) (by first | exact hB _ _ | exact hB0 _ _ | exact hBt _ _ | exact ⟨by omega, by omega⟩) (fun h7 => ?_) (fun h7 => ?_)
    · skip
      refine pe_rv d_A_fill_20 ?_
      exact ⟨hB, hfr, fun j h1 h2 => hA j h1 (by omega)⟩
    · skip
      refine pe_aload_n d_A_fill_10 rfl ?_
      refine pe_iload_n d_A_fill_11 rfl ?_
      refine pe_iload_n d_A_fill_12 rfl ?_
      refine pe_iastT d_A_fill_13 rfl (by omega) (by omega) hB (by first | exact hB _ _ | exact hB0 _ _ | exact hBt _ _ | exact ⟨by omega, by omega⟩) (fun σ13 hB e13 o13 f13 => ?_)
      refine pe_iinc d_A_fill_14 rfl ?_
      refine pe_goto (t := 5) d_A_fill_17 ?_
      exact ih (_, _) ⟨by (try dsimp only); omega, hB, (fun b hb => (f13 b (by simp at hb ⊢; try omega)).trans (hfr b hb)), pe_fillx hA e13 o13⟩ (by (try dsimp only); omega)
  refine pe_iconst d_A_fill_0 ?_
  refine pe_istore_n d_A_fill_1 ?_
  refine pe_aload_n d_A_fill_2 rfl ?_
  refine pe_alen (t0 := 0) d_A_fill_3 rfl (fun _ => rfl) ?_
  refine pe_istore_n d_A_fill_4 ?_
  exact J5 (_, _) ⟨by (try dsimp only); omega, hB, fun _ _ => rfl, fun j h1 h2 => by (try dsimp only at h2); omega⟩
theorem x_A_fill_27 {σ : pe_H} {v : Int} (hB : pe_B σ) (hv : pe_R v) : pe_M m_A_fill [pe_r 27, pe_i v] σ (pe_qv (fun σ' => pe_B σ' ∧ (∀ b, b ∉ [27] → σ' b = σ b) ∧ ∀ j, 0 ≤ j → j < 192 → σ' 27 j = v)) := by
  refine pe_in0 (lv := [some (pe_r 27), some (pe_i v), none, none]) ?_
  have hB0 := hB
  have J5 : ∀ fs : Int × pe_H, ((0 ≤ fs.1 ∧ fs.1 ≤ 192) ∧ pe_B fs.2 ∧ (∀ b, b ∉ [27] → fs.2 b = σ b) ∧ ∀ j, 0 ≤ j → j < fs.1 → fs.2 27 j = v) → pe_G m_A_fill 5 [some (pe_r 27), some (pe_i v), some (pe_i fs.1), some (pe_i 192)] [] fs.2 (pe_qv (fun σ' => pe_B σ' ∧ (∀ b, b ∉ [27] → σ' b = σ b) ∧ ∀ j, 0 ≤ j → j < 192 → σ' 27 j = v)) := by
    refine pe_loop (fun fs : Int × pe_H => (300 - fs.1).toNat) _ _ ?_
    intro fs hI ih
    obtain ⟨f, τ⟩ := fs
    dsimp only at hI ⊢
    obtain ⟨hI1, hB, hfr, hA⟩ := hI
    have hBt := hB
    refine pe_iload_n d_A_fill_5 rfl ?_
    refine pe_iload_n d_A_fill_6 rfl ?_
    refine pe_icmp_ge (t := 20) d_A_fill_7 (by first | exact hB _ _ | exact hB0 _ _ | exact hBt _ _ | exact ⟨by omega, by omega⟩) (by first | exact hB _ _ | exact hB0 _ _ | exact hBt _ _ | exact ⟨by omega, by omega⟩) (fun h7 => ?_) (fun h7 => ?_)
    · skip
      refine pe_rv d_A_fill_20 ?_
      exact ⟨hB, hfr, fun j h1 h2 => hA j h1 (by omega)⟩
    · skip
      refine pe_aload_n d_A_fill_10 rfl ?_
      refine pe_iload_n d_A_fill_11 rfl ?_
      refine pe_iload_n d_A_fill_12 rfl ?_
      refine pe_iastT d_A_fill_13 rfl (by omega) (by omega) hB (by first | exact hB _ _ | exact hB0 _ _ | exact hBt _ _ | exact ⟨by omega, by omega⟩) (fun σ13 hB e13 o13 f13 => ?_)
      refine pe_iinc d_A_fill_14 rfl ?_
      refine pe_goto (t := 5) d_A_fill_17 ?_
      exact ih (_, _) ⟨by (try dsimp only); omega, hB, (fun b hb => (f13 b (by simp at hb ⊢; try omega)).trans (hfr b hb)), pe_fillx hA e13 o13⟩ (by (try dsimp only); omega)
  refine pe_iconst d_A_fill_0 ?_
  refine pe_istore_n d_A_fill_1 ?_
  refine pe_aload_n d_A_fill_2 rfl ?_
  refine pe_alen (t0 := 0) d_A_fill_3 rfl (fun _ => rfl) ?_
  refine pe_istore_n d_A_fill_4 ?_
  exact J5 (_, _) ⟨by (try dsimp only); omega, hB, fun _ _ => rfl, fun j h1 h2 => by (try dsimp only at h2); omega⟩
theorem x_G_blankAll_18 {σ : pe_H} (hB : pe_B σ) : pe_M m_G_blankAll [pe_r 18] σ (pe_qv (fun σ' => pe_B σ' ∧ (∀ b, b ∉ [19, 20] → σ' b = σ b) ∧ ∀ j, 0 ≤ j → j < 192 → σ' 19 j = 32 ∧ σ' 20 j = 0)) := by
  refine pe_in0 (lv := [some (pe_r 18)]) ?_
  have hB0 := hB
  refine pe_aload_n d_G_blankAll_0 rfl ?_
  refine pe_getr f_G_9 d_G_blankAll_1 rfl rfl ?_
  refine pe_bipush d_G_blankAll_4 ?_
  refine pe_s2v d_G_blankAll_6 c_G_25 z_A_fill (x_A_fill_19 hB (by first | exact hB _ _ | exact hB0 _ _ | exact hBt _ _ | exact ⟨by omega, by omega⟩)) (fun σ6 hz6 => ?_)
  obtain ⟨hB, f6, x6⟩ := hz6
  refine pe_aload_n d_G_blankAll_9 rfl ?_
  refine pe_getr f_G_15 d_G_blankAll_10 rfl rfl ?_
  refine pe_iconst d_G_blankAll_13 ?_
  refine pe_s2v d_G_blankAll_14 c_G_25 z_A_fill (x_A_fill_20 hB (by first | exact hB _ _ | exact hB0 _ _ | exact hBt _ _ | exact ⟨by omega, by omega⟩)) (fun σ14 hz14 => ?_)
  obtain ⟨hB, f14, x14⟩ := hz14
  refine pe_rv d_G_blankAll_17 ?_
  exact ⟨hB, (fun b hb => (f14 b (by simp at hb ⊢; try omega)).trans ((f6 b (by simp at hb ⊢; try omega)).trans (rfl))), fun j h1 h2 => ⟨(congrFun (f14 19 (by decide)) j).trans (x6 j h1 h2), x14 j h1 h2⟩⟩
theorem x_G_clusterAt_18 {σ : pe_H} {r c : Int} (hB : pe_B σ) (hd : 1 ≤ σ 18 2 ∧ σ 18 2 ≤ 24 ∧ 1 ≤ σ 18 3 ∧ σ 18 3 ≤ 8) (hr : pe_R r) (hc : pe_R c) : pe_M m_G_clusterAt [pe_r 18, pe_i r, pe_i c] σ (pe_qp σ (fun z => z = if 0 ≤ r ∧ r < σ 18 3 ∧ 0 ≤ c ∧ c < σ 18 2 then σ 19 (r * 24 + c) else -1)) := by
  refine pe_in0 (lv := [some (pe_r 18), some (pe_i r), some (pe_i c)]) ?_
  have hB0 := hB
  refine pe_aload_n d_G_clusterAt_0 rfl ?_
  refine pe_iload_n d_G_clusterAt_1 rfl ?_
  refine pe_iload_n d_G_clusterAt_2 rfl ?_
  refine pe_v2p d_G_clusterAt_3 c_G_31 i_G_has s_G_has rfl rfl (t_G_has_18 (by omega) (by first | exact hB _ _ | exact hB0 _ _ | exact hBt _ _ | exact ⟨by omega, by omega⟩) (by first | exact hB _ _ | exact hB0 _ _ | exact hBt _ _ | exact ⟨by omega, by omega⟩)) (fun z3 hz3 => ?_)
  refine pe_if_eq (t := 23) d_G_clusterAt_6 (by first | exact hB _ _ | exact hB0 _ _ | exact hBt _ _ | exact ⟨by omega, by omega⟩) (fun h6 => ?_) (fun h6 => ?_)
  · skip
    refine pe_iconst d_G_clusterAt_23 ?_
    refine pe_ri d_G_clusterAt_24 ?_
    refine ⟨rfl, ?_⟩
    try dsimp only
    split <;> first | rfl | omega
  · skip
    refine pe_aload_n d_G_clusterAt_9 rfl ?_
    refine pe_getr f_G_9 d_G_clusterAt_10 rfl rfl ?_
    refine pe_iload_n d_G_clusterAt_13 rfl ?_
    refine pe_bipush d_G_clusterAt_14 ?_
    refine pe_imul d_G_clusterAt_16 ?_
    refine pe_iload_n d_G_clusterAt_17 rfl ?_
    refine pe_iadd d_G_clusterAt_18 ?_
    refine pe_iald d_G_clusterAt_19 rfl (by omega) (by omega) ?_
    refine pe_goto (t := 24) d_G_clusterAt_20 ?_
    refine pe_ri d_G_clusterAt_24 ?_
    refine ⟨rfl, ?_⟩
    try dsimp only
    split <;> first | rfl | omega
theorem y_G_clusterAt_18 {σ : pe_H} {r c : Int} (hB : pe_B σ) (hd : 1 ≤ σ 18 2 ∧ σ 18 2 ≤ 24 ∧ 1 ≤ σ 18 3 ∧ σ 18 3 ≤ 8) (hin : 0 ≤ r ∧ r < σ 18 3 ∧ 0 ≤ c ∧ c < σ 18 2) : pe_M m_G_clusterAt [pe_r 18, pe_i r, pe_i c] σ (pe_qp σ (fun z => z = σ 19 (r * 24 + c))) := by
  refine pe_in0 (lv := [some (pe_r 18), some (pe_i r), some (pe_i c)]) ?_
  have hB0 := hB
  refine pe_aload_n d_G_clusterAt_0 rfl ?_
  refine pe_iload_n d_G_clusterAt_1 rfl ?_
  refine pe_iload_n d_G_clusterAt_2 rfl ?_
  refine pe_v2p d_G_clusterAt_3 c_G_31 i_G_has s_G_has rfl rfl (t_G_has_18 (by omega) (by first | exact hB _ _ | exact hB0 _ _ | exact hBt _ _ | exact ⟨by omega, by omega⟩) (by first | exact hB _ _ | exact hB0 _ _ | exact hBt _ _ | exact ⟨by omega, by omega⟩)) (fun z3 hz3 => ?_)
  refine pe_if_eq (t := 23) d_G_clusterAt_6 (by first | exact hB _ _ | exact hB0 _ _ | exact hBt _ _ | exact ⟨by omega, by omega⟩) (fun h6 => ?_) (fun h6 => ?_)
  · skip
    exfalso; omega
  · skip
    refine pe_aload_n d_G_clusterAt_9 rfl ?_
    refine pe_getr f_G_9 d_G_clusterAt_10 rfl rfl ?_
    refine pe_iload_n d_G_clusterAt_13 rfl ?_
    refine pe_bipush d_G_clusterAt_14 ?_
    refine pe_imul d_G_clusterAt_16 ?_
    refine pe_iload_n d_G_clusterAt_17 rfl ?_
    refine pe_iadd d_G_clusterAt_18 ?_
    refine pe_iald d_G_clusterAt_19 rfl (by omega) (by omega) ?_
    refine pe_goto (t := 24) d_G_clusterAt_20 ?_
    refine pe_ri d_G_clusterAt_24 ?_
    exact ⟨rfl, rfl⟩
theorem x_G_lookAt_18 {σ : pe_H} {r c : Int} (hB : pe_B σ) (hd : 1 ≤ σ 18 2 ∧ σ 18 2 ≤ 24 ∧ 1 ≤ σ 18 3 ∧ σ 18 3 ≤ 8) (hr : pe_R r) (hc : pe_R c) : pe_M m_G_lookAt [pe_r 18, pe_i r, pe_i c] σ (pe_qp σ (fun z => z = if 0 ≤ r ∧ r < σ 18 3 ∧ 0 ≤ c ∧ c < σ 18 2 then σ 20 (r * 24 + c) else -1)) := by
  refine pe_in0 (lv := [some (pe_r 18), some (pe_i r), some (pe_i c)]) ?_
  have hB0 := hB
  refine pe_aload_n d_G_lookAt_0 rfl ?_
  refine pe_iload_n d_G_lookAt_1 rfl ?_
  refine pe_iload_n d_G_lookAt_2 rfl ?_
  refine pe_v2p d_G_lookAt_3 c_G_31 i_G_has s_G_has rfl rfl (t_G_has_18 (by omega) (by first | exact hB _ _ | exact hB0 _ _ | exact hBt _ _ | exact ⟨by omega, by omega⟩) (by first | exact hB _ _ | exact hB0 _ _ | exact hBt _ _ | exact ⟨by omega, by omega⟩)) (fun z3 hz3 => ?_)
  refine pe_if_eq (t := 23) d_G_lookAt_6 (by first | exact hB _ _ | exact hB0 _ _ | exact hBt _ _ | exact ⟨by omega, by omega⟩) (fun h6 => ?_) (fun h6 => ?_)
  · skip
    refine pe_iconst d_G_lookAt_23 ?_
    refine pe_ri d_G_lookAt_24 ?_
    refine ⟨rfl, ?_⟩
    try dsimp only
    split <;> first | rfl | omega
  · skip
    refine pe_aload_n d_G_lookAt_9 rfl ?_
    refine pe_getr f_G_15 d_G_lookAt_10 rfl rfl ?_
    refine pe_iload_n d_G_lookAt_13 rfl ?_
    refine pe_bipush d_G_lookAt_14 ?_
    refine pe_imul d_G_lookAt_16 ?_
    refine pe_iload_n d_G_lookAt_17 rfl ?_
    refine pe_iadd d_G_lookAt_18 ?_
    refine pe_iald d_G_lookAt_19 rfl (by omega) (by omega) ?_
    refine pe_goto (t := 24) d_G_lookAt_20 ?_
    refine pe_ri d_G_lookAt_24 ?_
    refine ⟨rfl, ?_⟩
    try dsimp only
    split <;> first | rfl | omega
theorem y_G_lookAt_18 {σ : pe_H} {r c : Int} (hB : pe_B σ) (hd : 1 ≤ σ 18 2 ∧ σ 18 2 ≤ 24 ∧ 1 ≤ σ 18 3 ∧ σ 18 3 ≤ 8) (hin : 0 ≤ r ∧ r < σ 18 3 ∧ 0 ≤ c ∧ c < σ 18 2) : pe_M m_G_lookAt [pe_r 18, pe_i r, pe_i c] σ (pe_qp σ (fun z => z = σ 20 (r * 24 + c))) := by
  refine pe_in0 (lv := [some (pe_r 18), some (pe_i r), some (pe_i c)]) ?_
  have hB0 := hB
  refine pe_aload_n d_G_lookAt_0 rfl ?_
  refine pe_iload_n d_G_lookAt_1 rfl ?_
  refine pe_iload_n d_G_lookAt_2 rfl ?_
  refine pe_v2p d_G_lookAt_3 c_G_31 i_G_has s_G_has rfl rfl (t_G_has_18 (by omega) (by first | exact hB _ _ | exact hB0 _ _ | exact hBt _ _ | exact ⟨by omega, by omega⟩) (by first | exact hB _ _ | exact hB0 _ _ | exact hBt _ _ | exact ⟨by omega, by omega⟩)) (fun z3 hz3 => ?_)
  refine pe_if_eq (t := 23) d_G_lookAt_6 (by first | exact hB _ _ | exact hB0 _ _ | exact hBt _ _ | exact ⟨by omega, by omega⟩) (fun h6 => ?_) (fun h6 => ?_)
  · skip
    exfalso; omega
  · skip
    refine pe_aload_n d_G_lookAt_9 rfl ?_
    refine pe_getr f_G_15 d_G_lookAt_10 rfl rfl ?_
    refine pe_iload_n d_G_lookAt_13 rfl ?_
    refine pe_bipush d_G_lookAt_14 ?_
    refine pe_imul d_G_lookAt_16 ?_
    refine pe_iload_n d_G_lookAt_17 rfl ?_
    refine pe_iadd d_G_lookAt_18 ?_
    refine pe_iald d_G_lookAt_19 rfl (by omega) (by omega) ?_
    refine pe_goto (t := 24) d_G_lookAt_20 ?_
    refine pe_ri d_G_lookAt_24 ?_
    exact ⟨rfl, rfl⟩
theorem y_G_put_18 {σ : pe_H} {r c u w : Int} (hB : pe_B σ) (hd : 1 ≤ σ 18 2 ∧ σ 18 2 ≤ 24 ∧ 1 ≤ σ 18 3 ∧ σ 18 3 ≤ 8) (hin : 0 ≤ r ∧ r < σ 18 3 ∧ 0 ≤ c ∧ c < σ 18 2) (hu : pe_R u) (hw : pe_R w) : pe_M m_G_put [pe_r 18, pe_i r, pe_i c, pe_i u, pe_i w] σ (pe_qv (fun σ' => pe_B σ' ∧ (∀ b, b ∉ [19, 20] → σ' b = σ b) ∧ (σ' 19 (r * 24 + c) = u ∧ σ' 20 (r * 24 + c) = w) ∧ ∀ j, j ≠ r * 24 + c → σ' 19 j = σ 19 j ∧ σ' 20 j = σ 20 j)) := by
  refine pe_in0 (lv := [some (pe_r 18), some (pe_i r), some (pe_i c), some (pe_i u), some (pe_i w)]) ?_
  have hB0 := hB
  refine pe_aload_n d_G_put_0 rfl ?_
  refine pe_iload_n d_G_put_1 rfl ?_
  refine pe_iload_n d_G_put_2 rfl ?_
  refine pe_v2p d_G_put_3 c_G_31 i_G_has s_G_has rfl rfl (t_G_has_18 (by omega) (by first | exact hB _ _ | exact hB0 _ _ | exact hBt _ _ | exact ⟨by omega, by omega⟩) (by first | exact hB _ _ | exact hB0 _ _ | exact hBt _ _ | exact ⟨by omega, by omega⟩)) (fun z3 hz3 => ?_)
  refine pe_if_eq (t := 34) d_G_put_6 (by first | exact hB _ _ | exact hB0 _ _ | exact hBt _ _ | exact ⟨by omega, by omega⟩) (fun h6 => ?_) (fun h6 => ?_)
  · skip
    refine pe_rv d_G_put_34 ?_
    first | (exfalso; omega) | exact ⟨hB, (fun b hb => rfl), ⟨(congrFun (f33 19 (by decide)) _).trans e20, e33⟩, fun j hj => ⟨(congrFun (f33 19 (by decide)) j).trans (o20 j hj), (o33 j hj).trans (congrFun (f20 20 (by decide)) j)⟩⟩
  · skip
    refine pe_aload_n d_G_put_9 rfl ?_
    refine pe_getr f_G_9 d_G_put_10 rfl rfl ?_
    refine pe_iload_n d_G_put_13 rfl ?_
    refine pe_bipush d_G_put_14 ?_
    refine pe_imul d_G_put_16 ?_
    refine pe_iload_n d_G_put_17 rfl ?_
    refine pe_iadd d_G_put_18 ?_
    refine pe_iload_n d_G_put_19 rfl ?_
    refine pe_iastT d_G_put_20 rfl (by omega) (by omega) hB (by first | exact hB _ _ | exact hB0 _ _ | exact hBt _ _ | exact ⟨by omega, by omega⟩) (fun σ20 hB e20 o20 f20 => ?_)
    try have u20_0 : σ20 18 2 = σ 18 2 := by first | exact o20 2 (by decide) | exact congrFun (f20 18 (by decide)) 2
    try have u20_1 : σ20 18 3 = σ 18 3 := by first | exact o20 3 (by decide) | exact congrFun (f20 18 (by decide)) 3
    refine pe_aload_n d_G_put_21 rfl ?_
    refine pe_getr f_G_15 d_G_put_22 rfl rfl ?_
    refine pe_iload_n d_G_put_25 rfl ?_
    refine pe_bipush d_G_put_26 ?_
    refine pe_imul d_G_put_28 ?_
    refine pe_iload_n d_G_put_29 rfl ?_
    refine pe_iadd d_G_put_30 ?_
    refine pe_iload d_G_put_31 rfl ?_
    refine pe_iastT d_G_put_33 rfl (by omega) (by omega) hB (by first | exact hB _ _ | exact hB0 _ _ | exact hBt _ _ | exact ⟨by omega, by omega⟩) (fun σ33 hB e33 o33 f33 => ?_)
    try have u33_0 : σ33 18 2 = σ20 18 2 := by first | exact o33 2 (by decide) | exact congrFun (f33 18 (by decide)) 2
    try have u33_1 : σ33 18 3 = σ20 18 3 := by first | exact o33 3 (by decide) | exact congrFun (f33 18 (by decide)) 3
    refine pe_rv d_G_put_34 ?_
    first | (exfalso; omega) | exact ⟨hB, (fun b hb => (f33 b (by simp at hb ⊢; try omega)).trans ((f20 b (by simp at hb ⊢; try omega)).trans (rfl))), ⟨(congrFun (f33 19 (by decide)) _).trans e20, e33⟩, fun j hj => ⟨(congrFun (f33 19 (by decide)) j).trans (o20 j hj), (o33 j hj).trans (congrFun (f20 20 (by decide)) j)⟩⟩
theorem x_G_blankAll_25 {σ : pe_H} (hB : pe_B σ) : pe_M m_G_blankAll [pe_r 25] σ (pe_qv (fun σ' => pe_B σ' ∧ (∀ b, b ∉ [26, 27] → σ' b = σ b) ∧ ∀ j, 0 ≤ j → j < 192 → σ' 26 j = 32 ∧ σ' 27 j = 0)) := by
  refine pe_in0 (lv := [some (pe_r 25)]) ?_
  have hB0 := hB
  refine pe_aload_n d_G_blankAll_0 rfl ?_
  refine pe_getr f_G_9 d_G_blankAll_1 rfl rfl ?_
  refine pe_bipush d_G_blankAll_4 ?_
  refine pe_s2v d_G_blankAll_6 c_G_25 z_A_fill (x_A_fill_26 hB (by first | exact hB _ _ | exact hB0 _ _ | exact hBt _ _ | exact ⟨by omega, by omega⟩)) (fun σ6 hz6 => ?_)
  obtain ⟨hB, f6, x6⟩ := hz6
  refine pe_aload_n d_G_blankAll_9 rfl ?_
  refine pe_getr f_G_15 d_G_blankAll_10 rfl rfl ?_
  refine pe_iconst d_G_blankAll_13 ?_
  refine pe_s2v d_G_blankAll_14 c_G_25 z_A_fill (x_A_fill_27 hB (by first | exact hB _ _ | exact hB0 _ _ | exact hBt _ _ | exact ⟨by omega, by omega⟩)) (fun σ14 hz14 => ?_)
  obtain ⟨hB, f14, x14⟩ := hz14
  refine pe_rv d_G_blankAll_17 ?_
  exact ⟨hB, (fun b hb => (f14 b (by simp at hb ⊢; try omega)).trans ((f6 b (by simp at hb ⊢; try omega)).trans (rfl))), fun j h1 h2 => ⟨(congrFun (f14 26 (by decide)) j).trans (x6 j h1 h2), x14 j h1 h2⟩⟩
theorem x_G_clusterAt_25 {σ : pe_H} {r c : Int} (hB : pe_B σ) (hd : 1 ≤ σ 25 2 ∧ σ 25 2 ≤ 24 ∧ 1 ≤ σ 25 3 ∧ σ 25 3 ≤ 8) (hr : pe_R r) (hc : pe_R c) : pe_M m_G_clusterAt [pe_r 25, pe_i r, pe_i c] σ (pe_qp σ (fun z => z = if 0 ≤ r ∧ r < σ 25 3 ∧ 0 ≤ c ∧ c < σ 25 2 then σ 26 (r * 24 + c) else -1)) := by
  refine pe_in0 (lv := [some (pe_r 25), some (pe_i r), some (pe_i c)]) ?_
  have hB0 := hB
  refine pe_aload_n d_G_clusterAt_0 rfl ?_
  refine pe_iload_n d_G_clusterAt_1 rfl ?_
  refine pe_iload_n d_G_clusterAt_2 rfl ?_
  refine pe_v2p d_G_clusterAt_3 c_G_31 i_G_has s_G_has rfl rfl (t_G_has_25 (by omega) (by first | exact hB _ _ | exact hB0 _ _ | exact hBt _ _ | exact ⟨by omega, by omega⟩) (by first | exact hB _ _ | exact hB0 _ _ | exact hBt _ _ | exact ⟨by omega, by omega⟩)) (fun z3 hz3 => ?_)
  refine pe_if_eq (t := 23) d_G_clusterAt_6 (by first | exact hB _ _ | exact hB0 _ _ | exact hBt _ _ | exact ⟨by omega, by omega⟩) (fun h6 => ?_) (fun h6 => ?_)
  · skip
    refine pe_iconst d_G_clusterAt_23 ?_
    refine pe_ri d_G_clusterAt_24 ?_
    refine ⟨rfl, ?_⟩
    try dsimp only
    split <;> first | rfl | omega
  · skip
    refine pe_aload_n d_G_clusterAt_9 rfl ?_
    refine pe_getr f_G_9 d_G_clusterAt_10 rfl rfl ?_
    refine pe_iload_n d_G_clusterAt_13 rfl ?_
    refine pe_bipush d_G_clusterAt_14 ?_
    refine pe_imul d_G_clusterAt_16 ?_
    refine pe_iload_n d_G_clusterAt_17 rfl ?_
    refine pe_iadd d_G_clusterAt_18 ?_
    refine pe_iald d_G_clusterAt_19 rfl (by omega) (by omega) ?_
    refine pe_goto (t := 24) d_G_clusterAt_20 ?_
    refine pe_ri d_G_clusterAt_24 ?_
    refine ⟨rfl, ?_⟩
    try dsimp only
    split <;> first | rfl | omega
theorem y_G_clusterAt_25 {σ : pe_H} {r c : Int} (hB : pe_B σ) (hd : 1 ≤ σ 25 2 ∧ σ 25 2 ≤ 24 ∧ 1 ≤ σ 25 3 ∧ σ 25 3 ≤ 8) (hin : 0 ≤ r ∧ r < σ 25 3 ∧ 0 ≤ c ∧ c < σ 25 2) : pe_M m_G_clusterAt [pe_r 25, pe_i r, pe_i c] σ (pe_qp σ (fun z => z = σ 26 (r * 24 + c))) := by
  refine pe_in0 (lv := [some (pe_r 25), some (pe_i r), some (pe_i c)]) ?_
  have hB0 := hB
  refine pe_aload_n d_G_clusterAt_0 rfl ?_
  refine pe_iload_n d_G_clusterAt_1 rfl ?_
  refine pe_iload_n d_G_clusterAt_2 rfl ?_
  refine pe_v2p d_G_clusterAt_3 c_G_31 i_G_has s_G_has rfl rfl (t_G_has_25 (by omega) (by first | exact hB _ _ | exact hB0 _ _ | exact hBt _ _ | exact ⟨by omega, by omega⟩) (by first | exact hB _ _ | exact hB0 _ _ | exact hBt _ _ | exact ⟨by omega, by omega⟩)) (fun z3 hz3 => ?_)
  refine pe_if_eq (t := 23) d_G_clusterAt_6 (by first | exact hB _ _ | exact hB0 _ _ | exact hBt _ _ | exact ⟨by omega, by omega⟩) (fun h6 => ?_) (fun h6 => ?_)
  · skip
    exfalso; omega
  · skip
    refine pe_aload_n d_G_clusterAt_9 rfl ?_
    refine pe_getr f_G_9 d_G_clusterAt_10 rfl rfl ?_
    refine pe_iload_n d_G_clusterAt_13 rfl ?_
    refine pe_bipush d_G_clusterAt_14 ?_
    refine pe_imul d_G_clusterAt_16 ?_
    refine pe_iload_n d_G_clusterAt_17 rfl ?_
    refine pe_iadd d_G_clusterAt_18 ?_
    refine pe_iald d_G_clusterAt_19 rfl (by omega) (by omega) ?_
    refine pe_goto (t := 24) d_G_clusterAt_20 ?_
    refine pe_ri d_G_clusterAt_24 ?_
    exact ⟨rfl, rfl⟩
theorem x_G_lookAt_25 {σ : pe_H} {r c : Int} (hB : pe_B σ) (hd : 1 ≤ σ 25 2 ∧ σ 25 2 ≤ 24 ∧ 1 ≤ σ 25 3 ∧ σ 25 3 ≤ 8) (hr : pe_R r) (hc : pe_R c) : pe_M m_G_lookAt [pe_r 25, pe_i r, pe_i c] σ (pe_qp σ (fun z => z = if 0 ≤ r ∧ r < σ 25 3 ∧ 0 ≤ c ∧ c < σ 25 2 then σ 27 (r * 24 + c) else -1)) := by
  refine pe_in0 (lv := [some (pe_r 25), some (pe_i r), some (pe_i c)]) ?_
  have hB0 := hB
  refine pe_aload_n d_G_lookAt_0 rfl ?_
  refine pe_iload_n d_G_lookAt_1 rfl ?_
  refine pe_iload_n d_G_lookAt_2 rfl ?_
  refine pe_v2p d_G_lookAt_3 c_G_31 i_G_has s_G_has rfl rfl (t_G_has_25 (by omega) (by first | exact hB _ _ | exact hB0 _ _ | exact hBt _ _ | exact ⟨by omega, by omega⟩) (by first | exact hB _ _ | exact hB0 _ _ | exact hBt _ _ | exact ⟨by omega, by omega⟩)) (fun z3 hz3 => ?_)
  refine pe_if_eq (t := 23) d_G_lookAt_6 (by first | exact hB _ _ | exact hB0 _ _ | exact hBt _ _ | exact ⟨by omega, by omega⟩) (fun h6 => ?_) (fun h6 => ?_)
  · skip
    refine pe_iconst d_G_lookAt_23 ?_
    refine pe_ri d_G_lookAt_24 ?_
    refine ⟨rfl, ?_⟩
    try dsimp only
    split <;> first | rfl | omega
  · skip
    refine pe_aload_n d_G_lookAt_9 rfl ?_
    refine pe_getr f_G_15 d_G_lookAt_10 rfl rfl ?_
    refine pe_iload_n d_G_lookAt_13 rfl ?_
    refine pe_bipush d_G_lookAt_14 ?_
    refine pe_imul d_G_lookAt_16 ?_
    refine pe_iload_n d_G_lookAt_17 rfl ?_
    refine pe_iadd d_G_lookAt_18 ?_
    refine pe_iald d_G_lookAt_19 rfl (by omega) (by omega) ?_
    refine pe_goto (t := 24) d_G_lookAt_20 ?_
    refine pe_ri d_G_lookAt_24 ?_
    refine ⟨rfl, ?_⟩
    try dsimp only
    split <;> first | rfl | omega
theorem y_G_lookAt_25 {σ : pe_H} {r c : Int} (hB : pe_B σ) (hd : 1 ≤ σ 25 2 ∧ σ 25 2 ≤ 24 ∧ 1 ≤ σ 25 3 ∧ σ 25 3 ≤ 8) (hin : 0 ≤ r ∧ r < σ 25 3 ∧ 0 ≤ c ∧ c < σ 25 2) : pe_M m_G_lookAt [pe_r 25, pe_i r, pe_i c] σ (pe_qp σ (fun z => z = σ 27 (r * 24 + c))) := by
  refine pe_in0 (lv := [some (pe_r 25), some (pe_i r), some (pe_i c)]) ?_
  have hB0 := hB
  refine pe_aload_n d_G_lookAt_0 rfl ?_
  refine pe_iload_n d_G_lookAt_1 rfl ?_
  refine pe_iload_n d_G_lookAt_2 rfl ?_
  refine pe_v2p d_G_lookAt_3 c_G_31 i_G_has s_G_has rfl rfl (t_G_has_25 (by omega) (by first | exact hB _ _ | exact hB0 _ _ | exact hBt _ _ | exact ⟨by omega, by omega⟩) (by first | exact hB _ _ | exact hB0 _ _ | exact hBt _ _ | exact ⟨by omega, by omega⟩)) (fun z3 hz3 => ?_)
  refine pe_if_eq (t := 23) d_G_lookAt_6 (by first | exact hB _ _ | exact hB0 _ _ | exact hBt _ _ | exact ⟨by omega, by omega⟩) (fun h6 => ?_) (fun h6 => ?_)
  · skip
    exfalso; omega
  · skip
    refine pe_aload_n d_G_lookAt_9 rfl ?_
    refine pe_getr f_G_15 d_G_lookAt_10 rfl rfl ?_
    refine pe_iload_n d_G_lookAt_13 rfl ?_
    refine pe_bipush d_G_lookAt_14 ?_
    refine pe_imul d_G_lookAt_16 ?_
    refine pe_iload_n d_G_lookAt_17 rfl ?_
    refine pe_iadd d_G_lookAt_18 ?_
    refine pe_iald d_G_lookAt_19 rfl (by omega) (by omega) ?_
    refine pe_goto (t := 24) d_G_lookAt_20 ?_
    refine pe_ri d_G_lookAt_24 ?_
    exact ⟨rfl, rfl⟩
theorem y_G_put_25 {σ : pe_H} {r c u w : Int} (hB : pe_B σ) (hd : 1 ≤ σ 25 2 ∧ σ 25 2 ≤ 24 ∧ 1 ≤ σ 25 3 ∧ σ 25 3 ≤ 8) (hin : 0 ≤ r ∧ r < σ 25 3 ∧ 0 ≤ c ∧ c < σ 25 2) (hu : pe_R u) (hw : pe_R w) : pe_M m_G_put [pe_r 25, pe_i r, pe_i c, pe_i u, pe_i w] σ (pe_qv (fun σ' => pe_B σ' ∧ (∀ b, b ∉ [26, 27] → σ' b = σ b) ∧ (σ' 26 (r * 24 + c) = u ∧ σ' 27 (r * 24 + c) = w) ∧ ∀ j, j ≠ r * 24 + c → σ' 26 j = σ 26 j ∧ σ' 27 j = σ 27 j)) := by
  refine pe_in0 (lv := [some (pe_r 25), some (pe_i r), some (pe_i c), some (pe_i u), some (pe_i w)]) ?_
  have hB0 := hB
  refine pe_aload_n d_G_put_0 rfl ?_
  refine pe_iload_n d_G_put_1 rfl ?_
  refine pe_iload_n d_G_put_2 rfl ?_
  refine pe_v2p d_G_put_3 c_G_31 i_G_has s_G_has rfl rfl (t_G_has_25 (by omega) (by first | exact hB _ _ | exact hB0 _ _ | exact hBt _ _ | exact ⟨by omega, by omega⟩) (by first | exact hB _ _ | exact hB0 _ _ | exact hBt _ _ | exact ⟨by omega, by omega⟩)) (fun z3 hz3 => ?_)
  refine pe_if_eq (t := 34) d_G_put_6 (by first | exact hB _ _ | exact hB0 _ _ | exact hBt _ _ | exact ⟨by omega, by omega⟩) (fun h6 => ?_) (fun h6 => ?_)
  · skip
    refine pe_rv d_G_put_34 ?_
    first | (exfalso; omega) | exact ⟨hB, (fun b hb => rfl), ⟨(congrFun (f33 26 (by decide)) _).trans e20, e33⟩, fun j hj => ⟨(congrFun (f33 26 (by decide)) j).trans (o20 j hj), (o33 j hj).trans (congrFun (f20 27 (by decide)) j)⟩⟩
  · skip
    refine pe_aload_n d_G_put_9 rfl ?_
    refine pe_getr f_G_9 d_G_put_10 rfl rfl ?_
    refine pe_iload_n d_G_put_13 rfl ?_
    refine pe_bipush d_G_put_14 ?_
    refine pe_imul d_G_put_16 ?_
    refine pe_iload_n d_G_put_17 rfl ?_
    refine pe_iadd d_G_put_18 ?_
    refine pe_iload_n d_G_put_19 rfl ?_
    refine pe_iastT d_G_put_20 rfl (by omega) (by omega) hB (by first | exact hB _ _ | exact hB0 _ _ | exact hBt _ _ | exact ⟨by omega, by omega⟩) (fun σ20 hB e20 o20 f20 => ?_)
    try have u20_0 : σ20 25 2 = σ 25 2 := by first | exact o20 2 (by decide) | exact congrFun (f20 25 (by decide)) 2
    try have u20_1 : σ20 25 3 = σ 25 3 := by first | exact o20 3 (by decide) | exact congrFun (f20 25 (by decide)) 3
    refine pe_aload_n d_G_put_21 rfl ?_
    refine pe_getr f_G_15 d_G_put_22 rfl rfl ?_
    refine pe_iload_n d_G_put_25 rfl ?_
    refine pe_bipush d_G_put_26 ?_
    refine pe_imul d_G_put_28 ?_
    refine pe_iload_n d_G_put_29 rfl ?_
    refine pe_iadd d_G_put_30 ?_
    refine pe_iload d_G_put_31 rfl ?_
    refine pe_iastT d_G_put_33 rfl (by omega) (by omega) hB (by first | exact hB _ _ | exact hB0 _ _ | exact hBt _ _ | exact ⟨by omega, by omega⟩) (fun σ33 hB e33 o33 f33 => ?_)
    try have u33_0 : σ33 25 2 = σ20 25 2 := by first | exact o33 2 (by decide) | exact congrFun (f33 25 (by decide)) 2
    try have u33_1 : σ33 25 3 = σ20 25 3 := by first | exact o33 3 (by decide) | exact congrFun (f33 25 (by decide)) 3
    refine pe_rv d_G_put_34 ?_
    first | (exfalso; omega) | exact ⟨hB, (fun b hb => (f33 b (by simp at hb ⊢; try omega)).trans ((f20 b (by simp at hb ⊢; try omega)).trans (rfl))), ⟨(congrFun (f33 26 (by decide)) _).trans e20, e33⟩, fun j hj => ⟨(congrFun (f33 26 (by decide)) j).trans (o20 j hj), (o33 j hj).trans (congrFun (f20 27 (by decide)) j)⟩⟩
theorem y_G_isBlank_18 {σ : pe_H} {r c : Int} (hB : pe_B σ) (hw : 1 ≤ σ 18 2 ∧ σ 18 2 ≤ 24 ∧ 1 ≤ σ 18 3 ∧ σ 18 3 ≤ 8) (hin : 0 ≤ r ∧ r < σ 18 3 ∧ 0 ≤ c ∧ c < σ 18 2) (hl : σ 20 (r * 24 + c) = 1) : pe_M m_G_isBlank [pe_r 18, pe_i r, pe_i c] σ (pe_qp σ (fun z => z = 0)) := by
  refine pe_in0 (lv := [some (pe_r 18), some (pe_i r), some (pe_i c)]) ?_
  have hB0 := hB
  refine pe_aload_n d_G_isBlank_0 rfl ?_
  refine pe_iload_n d_G_isBlank_1 rfl ?_
  refine pe_iload_n d_G_isBlank_2 rfl ?_
  refine pe_v2p d_G_isBlank_3 c_G_35 i_G_clusterAt s_G_clusterAt rfl rfl (y_G_clusterAt_18 hB (by omega) (by omega)) (fun z3 hz3 => ?_)
  have hR3 : pe_R z3 := by rw [hz3]; exact hB _ _
  refine pe_bipush d_G_isBlank_6 ?_
  refine pe_icmp_ne (t := 24) d_G_isBlank_8 (by first | exact hB _ _ | exact hB0 _ _ | exact hBt _ _ | exact ⟨by omega, by omega⟩) (by first | exact hB _ _ | exact hB0 _ _ | exact hBt _ _ | exact ⟨by omega, by omega⟩) (fun h8 => ?_) (fun h8 => ?_)
  · skip
    refine pe_iconst d_G_isBlank_24 ?_
    refine pe_rz d_G_isBlank_25 (by first | exact Or.inl rfl | exact Or.inr rfl | omega) ?_
    exact ⟨rfl, rfl⟩
  · skip
    refine pe_aload_n d_G_isBlank_11 rfl ?_
    refine pe_iload_n d_G_isBlank_12 rfl ?_
    refine pe_iload_n d_G_isBlank_13 rfl ?_
    refine pe_v2p d_G_isBlank_14 c_G_39 i_G_lookAt s_G_lookAt rfl rfl (y_G_lookAt_18 hB (by omega) (by omega)) (fun z14 hz14 => ?_)
    have hR14 : pe_R z14 := by rw [hz14]; exact hB _ _
    refine pe_if_ne (t := 24) d_G_isBlank_17 (by first | exact hB _ _ | exact hB0 _ _ | exact hBt _ _ | exact ⟨by omega, by omega⟩) (fun h17 => ?_) (fun h17 => ?_)
    · skip
      refine pe_iconst d_G_isBlank_24 ?_
      refine pe_rz d_G_isBlank_25 (by first | exact Or.inl rfl | exact Or.inr rfl | omega) ?_
      exact ⟨rfl, rfl⟩
    · skip
      exfalso; omega
theorem y_Q_differs0 {σ : pe_H} {r c : Int} (hB : pe_B σ) (hw : 1 ≤ σ 18 2 ∧ σ 18 2 ≤ 24 ∧ 1 ≤ σ 18 3 ∧ σ 18 3 ≤ 8) (hq : σ 25 2 = σ 18 2 ∧ σ 25 3 = σ 18 3) (hin : 0 ≤ r ∧ r < σ 18 3 ∧ 0 ≤ c ∧ c < σ 18 2) (he : σ 19 (r * 24 + c) = σ 26 (r * 24 + c) ∧ σ 20 (r * 24 + c) = σ 27 (r * 24 + c)) : pe_M m_Q_differs [pe_r 23, pe_r 18, pe_i r, pe_i c] σ (pe_qp σ (fun z => z = 0)) := by
  refine pe_in0 (lv := [some (pe_r 23), some (pe_r 18), some (pe_i r), some (pe_i c)]) ?_
  have hB0 := hB
  refine pe_aload_n d_Q_differs_0 rfl ?_
  refine pe_iload_n d_Q_differs_1 rfl ?_
  refine pe_iload_n d_Q_differs_2 rfl ?_
  refine pe_v2p d_Q_differs_3 c_Q_46 i_G_clusterAt s_G_clusterAt rfl rfl (y_G_clusterAt_18 hB (by omega) (by omega)) (fun z3 hz3 => ?_)
  have hR3 : pe_R z3 := by rw [hz3]; exact hB _ _
  refine pe_aload_n d_Q_differs_6 rfl ?_
  refine pe_getr f_Q_20 d_Q_differs_7 rfl rfl ?_
  refine pe_getr f_Q_73 d_Q_differs_10 rfl rfl ?_
  refine pe_iload_n d_Q_differs_13 rfl ?_
  refine pe_iload_n d_Q_differs_14 rfl ?_
  refine pe_v2p d_Q_differs_15 c_Q_46 i_G_clusterAt s_G_clusterAt rfl rfl (y_G_clusterAt_25 hB (by omega) (by omega)) (fun z15 hz15 => ?_)
  have hR15 : pe_R z15 := by rw [hz15]; exact hB _ _
  refine pe_icmp_ne (t := 42) d_Q_differs_18 (by first | exact hB _ _ | exact hB0 _ _ | exact hBt _ _ | exact ⟨by omega, by omega⟩) (by first | exact hB _ _ | exact hB0 _ _ | exact hBt _ _ | exact ⟨by omega, by omega⟩) (fun h18 => ?_) (fun h18 => ?_)
  · skip
    exfalso; omega
  · skip
    refine pe_aload_n d_Q_differs_21 rfl ?_
    refine pe_iload_n d_Q_differs_22 rfl ?_
    refine pe_iload_n d_Q_differs_23 rfl ?_
    refine pe_v2p d_Q_differs_24 c_Q_60 i_G_lookAt s_G_lookAt rfl rfl (y_G_lookAt_18 hB (by omega) (by omega)) (fun z24 hz24 => ?_)
    have hR24 : pe_R z24 := by rw [hz24]; exact hB _ _
    refine pe_aload_n d_Q_differs_27 rfl ?_
    refine pe_getr f_Q_20 d_Q_differs_28 rfl rfl ?_
    refine pe_getr f_Q_73 d_Q_differs_31 rfl rfl ?_
    refine pe_iload_n d_Q_differs_34 rfl ?_
    refine pe_iload_n d_Q_differs_35 rfl ?_
    refine pe_v2p d_Q_differs_36 c_Q_60 i_G_lookAt s_G_lookAt rfl rfl (y_G_lookAt_25 hB (by omega) (by omega)) (fun z36 hz36 => ?_)
    have hR36 : pe_R z36 := by rw [hz36]; exact hB _ _
    refine pe_icmp_eq (t := 46) d_Q_differs_39 (by first | exact hB _ _ | exact hB0 _ _ | exact hBt _ _ | exact ⟨by omega, by omega⟩) (by first | exact hB _ _ | exact hB0 _ _ | exact hBt _ _ | exact ⟨by omega, by omega⟩) (fun h39 => ?_) (fun h39 => ?_)
    · skip
      refine pe_iconst d_Q_differs_46 ?_
      refine pe_rz d_Q_differs_47 (by first | exact Or.inl rfl | exact Or.inr rfl | omega) ?_
      exact ⟨rfl, rfl⟩
    · skip
      exfalso; omega
theorem y_Q_differs1 {σ : pe_H} {r c : Int} (hB : pe_B σ) (hw : 1 ≤ σ 18 2 ∧ σ 18 2 ≤ 24 ∧ 1 ≤ σ 18 3 ∧ σ 18 3 ≤ 8) (hq : σ 25 2 = σ 18 2 ∧ σ 25 3 = σ 18 3) (hin : 0 ≤ r ∧ r < σ 18 3 ∧ 0 ≤ c ∧ c < σ 18 2) (he : σ 20 (r * 24 + c) ≠ σ 27 (r * 24 + c)) : pe_M m_Q_differs [pe_r 23, pe_r 18, pe_i r, pe_i c] σ (pe_qp σ (fun z => z = 1)) := by
  refine pe_in0 (lv := [some (pe_r 23), some (pe_r 18), some (pe_i r), some (pe_i c)]) ?_
  have hB0 := hB
  refine pe_aload_n d_Q_differs_0 rfl ?_
  refine pe_iload_n d_Q_differs_1 rfl ?_
  refine pe_iload_n d_Q_differs_2 rfl ?_
  refine pe_v2p d_Q_differs_3 c_Q_46 i_G_clusterAt s_G_clusterAt rfl rfl (y_G_clusterAt_18 hB (by omega) (by omega)) (fun z3 hz3 => ?_)
  have hR3 : pe_R z3 := by rw [hz3]; exact hB _ _
  refine pe_aload_n d_Q_differs_6 rfl ?_
  refine pe_getr f_Q_20 d_Q_differs_7 rfl rfl ?_
  refine pe_getr f_Q_73 d_Q_differs_10 rfl rfl ?_
  refine pe_iload_n d_Q_differs_13 rfl ?_
  refine pe_iload_n d_Q_differs_14 rfl ?_
  refine pe_v2p d_Q_differs_15 c_Q_46 i_G_clusterAt s_G_clusterAt rfl rfl (y_G_clusterAt_25 hB (by omega) (by omega)) (fun z15 hz15 => ?_)
  have hR15 : pe_R z15 := by rw [hz15]; exact hB _ _
  refine pe_icmp_ne (t := 42) d_Q_differs_18 (by first | exact hB _ _ | exact hB0 _ _ | exact hBt _ _ | exact ⟨by omega, by omega⟩) (by first | exact hB _ _ | exact hB0 _ _ | exact hBt _ _ | exact ⟨by omega, by omega⟩) (fun h18 => ?_) (fun h18 => ?_)
  · skip
    refine pe_iconst d_Q_differs_42 ?_
    refine pe_goto (t := 47) d_Q_differs_43 ?_
    refine pe_rz d_Q_differs_47 (by first | exact Or.inl rfl | exact Or.inr rfl | omega) ?_
    exact ⟨rfl, rfl⟩
  · skip
    refine pe_aload_n d_Q_differs_21 rfl ?_
    refine pe_iload_n d_Q_differs_22 rfl ?_
    refine pe_iload_n d_Q_differs_23 rfl ?_
    refine pe_v2p d_Q_differs_24 c_Q_60 i_G_lookAt s_G_lookAt rfl rfl (y_G_lookAt_18 hB (by omega) (by omega)) (fun z24 hz24 => ?_)
    have hR24 : pe_R z24 := by rw [hz24]; exact hB _ _
    refine pe_aload_n d_Q_differs_27 rfl ?_
    refine pe_getr f_Q_20 d_Q_differs_28 rfl rfl ?_
    refine pe_getr f_Q_73 d_Q_differs_31 rfl rfl ?_
    refine pe_iload_n d_Q_differs_34 rfl ?_
    refine pe_iload_n d_Q_differs_35 rfl ?_
    refine pe_v2p d_Q_differs_36 c_Q_60 i_G_lookAt s_G_lookAt rfl rfl (y_G_lookAt_25 hB (by omega) (by omega)) (fun z36 hz36 => ?_)
    have hR36 : pe_R z36 := by rw [hz36]; exact hB _ _
    refine pe_icmp_eq (t := 46) d_Q_differs_39 (by first | exact hB _ _ | exact hB0 _ _ | exact hBt _ _ | exact ⟨by omega, by omega⟩) (by first | exact hB _ _ | exact hB0 _ _ | exact hBt _ _ | exact ⟨by omega, by omega⟩) (fun h39 => ?_) (fun h39 => ?_)
    · skip
      exfalso; omega
    · skip
      refine pe_iconst d_Q_differs_42 ?_
      refine pe_goto (t := 47) d_Q_differs_43 ?_
      refine pe_rz d_Q_differs_47 (by first | exact Or.inl rfl | exact Or.inr rfl | omega) ?_
      exact ⟨rfl, rfl⟩
theorem y_Q_fd0 {σ : pe_H} {r : Int} (hB : pe_B σ) (hw : 1 ≤ σ 18 2 ∧ σ 18 2 ≤ 24 ∧ 1 ≤ σ 18 3 ∧ σ 18 3 ≤ 8) (hq : σ 25 2 = σ 18 2 ∧ σ 25 3 = σ 18 3) (hr : 0 ≤ r ∧ r < σ 18 3) (he : ∀ c, 0 ≤ c → c < σ 18 2 → σ 19 (r * 24 + c) = σ 26 (r * 24 + c) ∧ σ 20 (r * 24 + c) = σ 27 (r * 24 + c)) : pe_M m_Q_firstDifference [pe_r 23, pe_r 18, pe_i r] σ (pe_qp σ (fun z => z = -1)) := by
  refine pe_in0 (lv := [some (pe_r 23), some (pe_r 18), some (pe_i r), none]) ?_
  have hB0 := hB
  have J2 : ∀ f : Int, (0 ≤ f ∧ f ≤ 24) → pe_G m_Q_firstDifference 2 [some (pe_r 23), some (pe_r 18), some (pe_i r), some (pe_i f)] [] σ (pe_qp σ (fun z => z = -1)) := by
    refine pe_loop (fun f : Int => (100 - f).toNat) _ _ ?_
    intro f hI ih
    refine pe_iload_n d_Q_firstDifference_2 rfl ?_
    refine pe_aload_n d_Q_firstDifference_3 rfl ?_
    refine pe_geti f_Q_77 d_Q_firstDifference_4 rfl rfl 2 rfl ?_
    refine pe_icmp_ge (t := 28) d_Q_firstDifference_7 (by first | exact hB _ _ | exact hB0 _ _ | exact hBt _ _ | exact ⟨by omega, by omega⟩) (by first | exact hB _ _ | exact hB0 _ _ | exact hBt _ _ | exact ⟨by omega, by omega⟩) (fun h7 => ?_) (fun h7 => ?_)
    · skip
      refine pe_iconst d_Q_firstDifference_28 ?_
      refine pe_ri d_Q_firstDifference_29 ?_
      exact ⟨rfl, rfl⟩
    · skip
      refine pe_aload_n d_Q_firstDifference_10 rfl ?_
      refine pe_aload_n d_Q_firstDifference_11 rfl ?_
      refine pe_iload_n d_Q_firstDifference_12 rfl ?_
      refine pe_iload_n d_Q_firstDifference_13 rfl ?_
      refine pe_v3p d_Q_firstDifference_14 c_Q_80 i_Q_differs s_Q_differs rfl rfl (y_Q_differs0 hB (by omega) (by omega) (by omega) (he _ (by omega) (by omega))) (fun z14 hz14 => ?_)
      refine pe_if_eq (t := 22) d_Q_firstDifference_17 (by first | exact hB _ _ | exact hB0 _ _ | exact hBt _ _ | exact ⟨by omega, by omega⟩) (fun h17 => ?_) (fun h17 => ?_)
      · skip
        refine pe_iinc d_Q_firstDifference_22 rfl ?_
        refine pe_goto (t := 2) d_Q_firstDifference_25 ?_
        exact ih _ (by omega) (by omega)
      · skip
        exfalso; omega
  refine pe_iconst d_Q_firstDifference_0 ?_
  refine pe_istore_n d_Q_firstDifference_1 ?_
  exact J2 _ (by omega)
theorem y_Q_fd1 {σ : pe_H} {r : Int} (hB : pe_B σ) (hw : 1 ≤ σ 18 2 ∧ σ 18 2 ≤ 24 ∧ 1 ≤ σ 18 3 ∧ σ 18 3 ≤ 8) (hq : σ 25 2 = σ 18 2 ∧ σ 25 3 = σ 18 3) (hr : 0 ≤ r ∧ r < σ 18 3) (he : σ 20 (r * 24 + 0) ≠ σ 27 (r * 24 + 0)) : pe_M m_Q_firstDifference [pe_r 23, pe_r 18, pe_i r] σ (pe_qp σ (fun z => z = 0)) := by
  refine pe_in0 (lv := [some (pe_r 23), some (pe_r 18), some (pe_i r), none]) ?_
  have hB0 := hB
  refine pe_iconst d_Q_firstDifference_0 ?_
  refine pe_istore_n d_Q_firstDifference_1 ?_
  refine pe_iload_n d_Q_firstDifference_2 rfl ?_
  refine pe_aload_n d_Q_firstDifference_3 rfl ?_
  refine pe_geti f_Q_77 d_Q_firstDifference_4 rfl rfl 2 rfl ?_
  refine pe_icmp_ge (t := 28) d_Q_firstDifference_7 (by first | exact hB _ _ | exact hB0 _ _ | exact hBt _ _ | exact ⟨by omega, by omega⟩) (by first | exact hB _ _ | exact hB0 _ _ | exact hBt _ _ | exact ⟨by omega, by omega⟩) (fun h7 => ?_) (fun h7 => ?_)
  · skip
    exfalso; omega
  · skip
    refine pe_aload_n d_Q_firstDifference_10 rfl ?_
    refine pe_aload_n d_Q_firstDifference_11 rfl ?_
    refine pe_iload_n d_Q_firstDifference_12 rfl ?_
    refine pe_iload_n d_Q_firstDifference_13 rfl ?_
    refine pe_v3p d_Q_firstDifference_14 c_Q_80 i_Q_differs s_Q_differs rfl rfl (y_Q_differs1 hB (by omega) (by omega) (by omega) he) (fun z14 hz14 => ?_)
    refine pe_if_eq (t := 22) d_Q_firstDifference_17 (by first | exact hB _ _ | exact hB0 _ _ | exact hBt _ _ | exact ⟨by omega, by omega⟩) (fun h17 => ?_) (fun h17 => ?_)
    · skip
      exfalso; omega
    · skip
      refine pe_iload_n d_Q_firstDifference_20 rfl ?_
      refine pe_ri d_Q_firstDifference_21 ?_
      exact ⟨rfl, rfl⟩
theorem y_Q_ld1 {σ : pe_H} {r : Int} (hB : pe_B σ) (hw : 1 ≤ σ 18 2 ∧ σ 18 2 ≤ 24 ∧ 1 ≤ σ 18 3 ∧ σ 18 3 ≤ 8) (hq : σ 25 2 = σ 18 2 ∧ σ 25 3 = σ 18 3) (hr : 0 ≤ r ∧ r < σ 18 3) (he : σ 20 (r * 24 + (σ 18 2 - 1)) ≠ σ 27 (r * 24 + (σ 18 2 - 1))) : pe_M m_Q_lastDifference [pe_r 23, pe_r 18, pe_i r] σ (pe_qp σ (fun z => z = σ 18 2 - 1)) := by
  refine pe_in0 (lv := [some (pe_r 23), some (pe_r 18), some (pe_i r), none]) ?_
  have hB0 := hB
  refine pe_aload_n d_Q_lastDifference_0 rfl ?_
  refine pe_geti f_Q_77 d_Q_lastDifference_1 rfl rfl 2 rfl ?_
  refine pe_iconst d_Q_lastDifference_4 ?_
  refine pe_isub d_Q_lastDifference_5 ?_
  refine pe_istore_n d_Q_lastDifference_6 ?_
  refine pe_iload_n d_Q_lastDifference_7 rfl ?_
  refine pe_if_lt (t := 29) d_Q_lastDifference_8 (by first | exact hB _ _ | exact hB0 _ _ | exact hBt _ _ | exact ⟨by omega, by omega⟩) (fun h8 => ?_) (fun h8 => ?_)
  · skip
    exfalso; omega
  · skip
    refine pe_aload_n d_Q_lastDifference_11 rfl ?_
    refine pe_aload_n d_Q_lastDifference_12 rfl ?_
    refine pe_iload_n d_Q_lastDifference_13 rfl ?_
    refine pe_iload_n d_Q_lastDifference_14 rfl ?_
    refine pe_v3p d_Q_lastDifference_15 c_Q_80 i_Q_differs s_Q_differs rfl rfl (y_Q_differs1 hB (by omega) (by omega) (by omega) he) (fun z15 hz15 => ?_)
    refine pe_if_eq (t := 23) d_Q_lastDifference_18 (by first | exact hB _ _ | exact hB0 _ _ | exact hBt _ _ | exact ⟨by omega, by omega⟩) (fun h18 => ?_) (fun h18 => ?_)
    · skip
      exfalso; omega
    · skip
      refine pe_iload_n d_Q_lastDifference_21 rfl ?_
      refine pe_ri d_Q_lastDifference_22 ?_
      exact ⟨rfl, rfl⟩
theorem y_Q_bb1 {σ : pe_H} {r : Int} (hB : pe_B σ) (hw : 1 ≤ σ 18 2 ∧ σ 18 2 ≤ 24 ∧ 1 ≤ σ 18 3 ∧ σ 18 3 ≤ 8) (hr : 0 ≤ r ∧ r < σ 18 3) (he : σ 20 (r * 24 + (σ 18 2 - 1)) = 1) : pe_M m_Q_blankBeginning [pe_r 18, pe_i r] σ (pe_qp σ (fun z => z = σ 18 2)) := by
  refine pe_in0 (lv := [some (pe_r 18), some (pe_i r), none]) ?_
  have hB0 := hB
  refine pe_aload_n d_Q_blankBeginning_0 rfl ?_
  refine pe_geti f_Q_77 d_Q_blankBeginning_1 rfl rfl 2 rfl ?_
  refine pe_istore_n d_Q_blankBeginning_4 ?_
  refine pe_iload_n d_Q_blankBeginning_5 rfl ?_
  refine pe_if_le (t := 26) d_Q_blankBeginning_6 (by first | exact hB _ _ | exact hB0 _ _ | exact hBt _ _ | exact ⟨by omega, by omega⟩) (fun h6 => ?_) (fun h6 => ?_)
  · skip
    refine pe_iload_n d_Q_blankBeginning_26 rfl ?_
    refine pe_ri d_Q_blankBeginning_27 ?_
    exact ⟨rfl, rfl⟩
  · skip
    refine pe_aload_n d_Q_blankBeginning_9 rfl ?_
    refine pe_iload_n d_Q_blankBeginning_10 rfl ?_
    refine pe_iload_n d_Q_blankBeginning_11 rfl ?_
    refine pe_iconst d_Q_blankBeginning_12 ?_
    refine pe_isub d_Q_blankBeginning_13 ?_
    refine pe_v2p d_Q_blankBeginning_14 c_Q_84 i_G_isBlank s_G_isBlank rfl rfl (y_G_isBlank_18 hB (by omega) (by omega) he) (fun z14 hz14 => ?_)
    refine pe_if_eq (t := 26) d_Q_blankBeginning_17 (by first | exact hB _ _ | exact hB0 _ _ | exact hBt _ _ | exact ⟨by omega, by omega⟩) (fun h17 => ?_) (fun h17 => ?_)
    · skip
      refine pe_iload_n d_Q_blankBeginning_26 rfl ?_
      refine pe_ri d_Q_blankBeginning_27 ?_
      exact ⟨rfl, rfl⟩
    · skip
      exfalso; omega
theorem y_Q_put {σ : pe_H} {k : Int} (hB : pe_B σ) (hq : 0 ≤ σ 23 2 ∧ σ 23 2 ≤ 2047) (hk : pe_R k) : pe_M m_Q_put [pe_r 23, pe_i k] σ (pe_qv (fun σ' => pe_B σ' ∧ (∀ b, b ∉ [23, 28] → σ' b = σ b) ∧ σ' 23 2 = σ 23 2 + 1)) := by
  refine pe_in0 (lv := [some (pe_r 23), some (pe_i k)]) ?_
  have hB0 := hB
  refine pe_aload_n d_Q_put_0 rfl ?_
  refine pe_geti f_Q_24 d_Q_put_1 rfl rfl 2 rfl ?_
  refine pe_sipush d_Q_put_4 ?_
  refine pe_icmp_ge (t := 30) d_Q_put_7 (by first | exact hB _ _ | exact hB0 _ _ | exact hBt _ _ | exact ⟨by omega, by omega⟩) (by first | exact hB _ _ | exact hB0 _ _ | exact hBt _ _ | exact ⟨by omega, by omega⟩) (fun h7 => ?_) (fun h7 => ?_)
  · skip
    refine pe_rv d_Q_put_30 ?_
    first | (exfalso; omega) | exact ⟨hB, (fun b hb => rfl), by omega⟩
  · skip
    refine pe_aload_n d_Q_put_10 rfl ?_
    refine pe_getr f_Q_9 d_Q_put_11 rfl rfl ?_
    refine pe_aload_n d_Q_put_14 rfl ?_
    refine pe_geti f_Q_24 d_Q_put_15 rfl rfl 2 rfl ?_
    refine pe_iload_n d_Q_put_18 rfl ?_
    refine pe_iastT d_Q_put_19 rfl (by omega) (by omega) hB (by first | exact hB _ _ | exact hB0 _ _ | exact hBt _ _ | exact ⟨by omega, by omega⟩) (fun σ19 hB e19 o19 f19 => ?_)
    try have u19_0 : σ19 24 1 = σ 24 1 := by first | exact o19 1 (by decide) | exact congrFun (f19 24 (by decide)) 1
    try have u19_1 : σ19 24 2 = σ 24 2 := by first | exact o19 2 (by decide) | exact congrFun (f19 24 (by decide)) 2
    try have u19_2 : σ19 24 3 = σ 24 3 := by first | exact o19 3 (by decide) | exact congrFun (f19 24 (by decide)) 3
    try have u19_3 : σ19 24 4 = σ 24 4 := by first | exact o19 4 (by decide) | exact congrFun (f19 24 (by decide)) 4
    try have u19_4 : σ19 25 2 = σ 25 2 := by first | exact o19 2 (by decide) | exact congrFun (f19 25 (by decide)) 2
    try have u19_5 : σ19 25 3 = σ 25 3 := by first | exact o19 3 (by decide) | exact congrFun (f19 25 (by decide)) 3
    try have u19_6 : σ19 23 2 = σ 23 2 := by first | exact o19 2 (by decide) | exact congrFun (f19 23 (by decide)) 2
    try have u19_7 : σ19 18 2 = σ 18 2 := by first | exact o19 2 (by decide) | exact congrFun (f19 18 (by decide)) 2
    try have u19_8 : σ19 18 3 = σ 18 3 := by first | exact o19 3 (by decide) | exact congrFun (f19 18 (by decide)) 3
    refine pe_aload_n d_Q_put_20 rfl ?_
    refine pe_dup d_Q_put_21 ?_
    refine pe_geti f_Q_24 d_Q_put_22 rfl rfl 2 rfl ?_
    refine pe_iconst d_Q_put_25 ?_
    refine pe_iadd d_Q_put_26 ?_
    refine pe_putiT f_Q_24 g_9_2 d_Q_put_27 rfl rfl 2 rfl hB (by first | exact hB _ _ | exact hB0 _ _ | exact hBt _ _ | exact ⟨by omega, by omega⟩) (fun σ27 hB e27 o27 f27 => ?_)
    try have u27_0 : σ27 24 1 = σ19 24 1 := by first | exact o27 1 (by decide) | exact congrFun (f27 24 (by decide)) 1
    try have u27_1 : σ27 24 2 = σ19 24 2 := by first | exact o27 2 (by decide) | exact congrFun (f27 24 (by decide)) 2
    try have u27_2 : σ27 24 3 = σ19 24 3 := by first | exact o27 3 (by decide) | exact congrFun (f27 24 (by decide)) 3
    try have u27_3 : σ27 24 4 = σ19 24 4 := by first | exact o27 4 (by decide) | exact congrFun (f27 24 (by decide)) 4
    try have u27_4 : σ27 25 2 = σ19 25 2 := by first | exact o27 2 (by decide) | exact congrFun (f27 25 (by decide)) 2
    try have u27_5 : σ27 25 3 = σ19 25 3 := by first | exact o27 3 (by decide) | exact congrFun (f27 25 (by decide)) 3
    try have u27_6 : σ27 23 2 = σ19 23 2 := by first | exact o27 2 (by decide) | exact congrFun (f27 23 (by decide)) 2
    try have u27_7 : σ27 18 2 = σ19 18 2 := by first | exact o27 2 (by decide) | exact congrFun (f27 18 (by decide)) 2
    try have u27_8 : σ27 18 3 = σ19 18 3 := by first | exact o27 3 (by decide) | exact congrFun (f27 18 (by decide)) 3
    refine pe_rv d_Q_put_30 ?_
    first | (exfalso; omega) | exact ⟨hB, (fun b hb => (f27 b (by simp at hb ⊢; try omega)).trans ((f19 b (by simp at hb ⊢; try omega)).trans (rfl))), by omega⟩
theorem y_Q_putNumber {σ : pe_H} {k : Int} (hB : pe_B σ) (hq : 0 ≤ σ 23 2 ∧ σ 23 2 ≤ 2040) (hk : -1 ≤ k ∧ k ≤ 99) : pe_M m_Q_putNumber [pe_r 23, pe_i k] σ (pe_qv (fun σ' => pe_B σ' ∧ (∀ b, b ∉ [23, 28] → σ' b = σ b) ∧ (k < 0 → σ' 23 2 = σ 23 2) ∧ (0 ≤ k ∧ k < 10 → σ' 23 2 = σ 23 2 + 1) ∧ (10 ≤ k → σ' 23 2 = σ 23 2 + 2))) := by
  refine pe_in0 (lv := [some (pe_r 23), some (pe_i k)]) ?_
  have hB0 := hB
  refine pe_iload_n d_Q_putNumber_0 rfl ?_
  refine pe_bipush d_Q_putNumber_1 ?_
  refine pe_icmp_lt (t := 17) d_Q_putNumber_3 (by first | exact hB _ _ | exact hB0 _ _ | exact hBt _ _ | exact ⟨by omega, by omega⟩) (by first | exact hB _ _ | exact hB0 _ _ | exact hBt _ _ | exact ⟨by omega, by omega⟩) (fun h3 => ?_) (fun h3 => ?_)
  · skip
    refine pe_iload_n d_Q_putNumber_17 rfl ?_
    refine pe_if_lt (t := 32) d_Q_putNumber_18 (by first | exact hB _ _ | exact hB0 _ _ | exact hBt _ _ | exact ⟨by omega, by omega⟩) (fun h18 => ?_) (fun h18 => ?_)
    · skip
      refine pe_rv d_Q_putNumber_32 ?_
      exact ⟨hB, (fun b hb => rfl), by omega⟩
    · skip
      refine pe_aload_n d_Q_putNumber_21 rfl ?_
      refine pe_bipush d_Q_putNumber_22 ?_
      refine pe_iload_n d_Q_putNumber_24 rfl ?_
      refine pe_bipush d_Q_putNumber_25 ?_
      refine pe_irem d_Q_putNumber_27 (by first | exact hB _ _ | exact hB0 _ _ | exact hBt _ _ | exact ⟨by omega, by omega⟩) (by omega) (by first | exact hB _ _ | exact hB0 _ _ | exact hBt _ _ | exact ⟨by omega, by omega⟩) ?_
      refine pe_iadd d_Q_putNumber_28 ?_
      refine pe_any (fun v29 hv29 => ?_)
      refine pe_v1v d_Q_putNumber_29 c_Q_126 i_Q_put s_Q_put rfl rfl (y_Q_put hB (by omega) (by first | exact hB _ _ | exact hB0 _ _ | exact hBt _ _ | exact ⟨by omega, by omega⟩)) (fun σ29 hz29 => ?_)
      obtain ⟨hB, f29, x29⟩ := hz29
      try have u29_0 : σ29 24 1 = σ 24 1 := by first | exact o29 1 (by decide) | exact congrFun (f29 24 (by decide)) 1
      try have u29_1 : σ29 24 2 = σ 24 2 := by first | exact o29 2 (by decide) | exact congrFun (f29 24 (by decide)) 2
      try have u29_2 : σ29 24 3 = σ 24 3 := by first | exact o29 3 (by decide) | exact congrFun (f29 24 (by decide)) 3
      try have u29_3 : σ29 24 4 = σ 24 4 := by first | exact o29 4 (by decide) | exact congrFun (f29 24 (by decide)) 4
      try have u29_4 : σ29 25 2 = σ 25 2 := by first | exact o29 2 (by decide) | exact congrFun (f29 25 (by decide)) 2
      try have u29_5 : σ29 25 3 = σ 25 3 := by first | exact o29 3 (by decide) | exact congrFun (f29 25 (by decide)) 3
      try have u29_6 : σ29 23 2 = σ 23 2 := by first | exact o29 2 (by decide) | exact congrFun (f29 23 (by decide)) 2
      try have u29_7 : σ29 18 2 = σ 18 2 := by first | exact o29 2 (by decide) | exact congrFun (f29 18 (by decide)) 2
      try have u29_8 : σ29 18 3 = σ 18 3 := by first | exact o29 3 (by decide) | exact congrFun (f29 18 (by decide)) 3
      refine pe_rv d_Q_putNumber_32 ?_
      exact ⟨hB, (fun b hb => (f29 b (by simp at hb ⊢; try omega)).trans (rfl)), by omega⟩
  · skip
    refine pe_aload_n d_Q_putNumber_6 rfl ?_
    refine pe_bipush d_Q_putNumber_7 ?_
    refine pe_iload_n d_Q_putNumber_9 rfl ?_
    refine pe_bipush d_Q_putNumber_10 ?_
    refine pe_idiv d_Q_putNumber_12 (by first | exact hB _ _ | exact hB0 _ _ | exact hBt _ _ | exact ⟨by omega, by omega⟩) (by omega) (by first | exact hB _ _ | exact hB0 _ _ | exact hBt _ _ | exact ⟨by omega, by omega⟩) ?_
    refine pe_iadd d_Q_putNumber_13 ?_
    refine pe_any (fun v14 hv14 => ?_)
    refine pe_v1v d_Q_putNumber_14 c_Q_126 i_Q_put s_Q_put rfl rfl (y_Q_put hB (by omega) (by first | exact hB _ _ | exact hB0 _ _ | exact hBt _ _ | exact ⟨by omega, by omega⟩)) (fun σ14 hz14 => ?_)
    obtain ⟨hB, f14, x14⟩ := hz14
    try have u14_0 : σ14 24 1 = σ 24 1 := by first | exact o14 1 (by decide) | exact congrFun (f14 24 (by decide)) 1
    try have u14_1 : σ14 24 2 = σ 24 2 := by first | exact o14 2 (by decide) | exact congrFun (f14 24 (by decide)) 2
    try have u14_2 : σ14 24 3 = σ 24 3 := by first | exact o14 3 (by decide) | exact congrFun (f14 24 (by decide)) 3
    try have u14_3 : σ14 24 4 = σ 24 4 := by first | exact o14 4 (by decide) | exact congrFun (f14 24 (by decide)) 4
    try have u14_4 : σ14 25 2 = σ 25 2 := by first | exact o14 2 (by decide) | exact congrFun (f14 25 (by decide)) 2
    try have u14_5 : σ14 25 3 = σ 25 3 := by first | exact o14 3 (by decide) | exact congrFun (f14 25 (by decide)) 3
    try have u14_6 : σ14 23 2 = σ 23 2 := by first | exact o14 2 (by decide) | exact congrFun (f14 23 (by decide)) 2
    try have u14_7 : σ14 18 2 = σ 18 2 := by first | exact o14 2 (by decide) | exact congrFun (f14 18 (by decide)) 2
    try have u14_8 : σ14 18 3 = σ 18 3 := by first | exact o14 3 (by decide) | exact congrFun (f14 18 (by decide)) 3
    refine pe_iload_n d_Q_putNumber_17 rfl ?_
    refine pe_if_lt (t := 32) d_Q_putNumber_18 (by first | exact hB _ _ | exact hB0 _ _ | exact hBt _ _ | exact ⟨by omega, by omega⟩) (fun h18 => ?_) (fun h18 => ?_)
    · skip
      refine pe_rv d_Q_putNumber_32 ?_
      exact ⟨hB, (fun b hb => (f14 b (by simp at hb ⊢; try omega)).trans (rfl)), by omega⟩
    · skip
      refine pe_aload_n d_Q_putNumber_21 rfl ?_
      refine pe_bipush d_Q_putNumber_22 ?_
      refine pe_iload_n d_Q_putNumber_24 rfl ?_
      refine pe_bipush d_Q_putNumber_25 ?_
      refine pe_irem d_Q_putNumber_27 (by first | exact hB _ _ | exact hB0 _ _ | exact hBt _ _ | exact ⟨by omega, by omega⟩) (by omega) (by first | exact hB _ _ | exact hB0 _ _ | exact hBt _ _ | exact ⟨by omega, by omega⟩) ?_
      refine pe_iadd d_Q_putNumber_28 ?_
      refine pe_any (fun v29 hv29 => ?_)
      refine pe_v1v d_Q_putNumber_29 c_Q_126 i_Q_put s_Q_put rfl rfl (y_Q_put hB (by omega) (by first | exact hB _ _ | exact hB0 _ _ | exact hBt _ _ | exact ⟨by omega, by omega⟩)) (fun σ29 hz29 => ?_)
      obtain ⟨hB, f29, x29⟩ := hz29
      try have u29_0 : σ29 24 1 = σ14 24 1 := by first | exact o29 1 (by decide) | exact congrFun (f29 24 (by decide)) 1
      try have u29_1 : σ29 24 2 = σ14 24 2 := by first | exact o29 2 (by decide) | exact congrFun (f29 24 (by decide)) 2
      try have u29_2 : σ29 24 3 = σ14 24 3 := by first | exact o29 3 (by decide) | exact congrFun (f29 24 (by decide)) 3
      try have u29_3 : σ29 24 4 = σ14 24 4 := by first | exact o29 4 (by decide) | exact congrFun (f29 24 (by decide)) 4
      try have u29_4 : σ29 25 2 = σ14 25 2 := by first | exact o29 2 (by decide) | exact congrFun (f29 25 (by decide)) 2
      try have u29_5 : σ29 25 3 = σ14 25 3 := by first | exact o29 3 (by decide) | exact congrFun (f29 25 (by decide)) 3
      try have u29_6 : σ29 23 2 = σ14 23 2 := by first | exact o29 2 (by decide) | exact congrFun (f29 23 (by decide)) 2
      try have u29_7 : σ29 18 2 = σ14 18 2 := by first | exact o29 2 (by decide) | exact congrFun (f29 18 (by decide)) 2
      try have u29_8 : σ29 18 3 = σ14 18 3 := by first | exact o29 3 (by decide) | exact congrFun (f29 18 (by decide)) 3
      refine pe_rv d_Q_putNumber_32 ?_
      exact ⟨hB, (fun b hb => (f29 b (by simp at hb ⊢; try omega)).trans ((f14 b (by simp at hb ⊢; try omega)).trans (rfl))), by omega⟩
theorem y_Q_sendSequence {σ : pe_H} {a c k : Int} (hB : pe_B σ) (hq : 0 ≤ σ 23 2 ∧ σ 23 2 ≤ 2000) (ha : 0 ≤ a ∧ a ≤ 9) (hc : -1 ≤ c ∧ c ≤ 9) (hk : pe_R k) : pe_M m_Q_sendSequence [pe_r 23, pe_i a, pe_i c, pe_i k] σ (pe_qv (fun σ' => pe_B σ' ∧ (∀ b, b ∉ [23, 28] → σ' b = σ b) ∧ (c = -1 → σ' 23 2 = σ 23 2 + 4) ∧ (0 ≤ c → σ' 23 2 = σ 23 2 + 6))) := by
  refine pe_in0 (lv := [some (pe_r 23), some (pe_i a), some (pe_i c), some (pe_i k)]) ?_
  have hB0 := hB
  refine pe_aload_n d_Q_sendSequence_0 rfl ?_
  refine pe_bipush d_Q_sendSequence_1 ?_
  refine pe_any (fun v3 hv3 => ?_)
  refine pe_v1v d_Q_sendSequence_3 c_Q_126 i_Q_put s_Q_put rfl rfl (y_Q_put hB (by omega) (by first | exact hB _ _ | exact hB0 _ _ | exact hBt _ _ | exact ⟨by omega, by omega⟩)) (fun σ3 hz3 => ?_)
  obtain ⟨hB, f3, x3⟩ := hz3
  try have u3_0 : σ3 24 1 = σ 24 1 := by first | exact o3 1 (by decide) | exact congrFun (f3 24 (by decide)) 1
  try have u3_1 : σ3 24 2 = σ 24 2 := by first | exact o3 2 (by decide) | exact congrFun (f3 24 (by decide)) 2
  try have u3_2 : σ3 24 3 = σ 24 3 := by first | exact o3 3 (by decide) | exact congrFun (f3 24 (by decide)) 3
  try have u3_3 : σ3 24 4 = σ 24 4 := by first | exact o3 4 (by decide) | exact congrFun (f3 24 (by decide)) 4
  try have u3_4 : σ3 25 2 = σ 25 2 := by first | exact o3 2 (by decide) | exact congrFun (f3 25 (by decide)) 2
  try have u3_5 : σ3 25 3 = σ 25 3 := by first | exact o3 3 (by decide) | exact congrFun (f3 25 (by decide)) 3
  try have u3_6 : σ3 23 2 = σ 23 2 := by first | exact o3 2 (by decide) | exact congrFun (f3 23 (by decide)) 2
  try have u3_7 : σ3 18 2 = σ 18 2 := by first | exact o3 2 (by decide) | exact congrFun (f3 18 (by decide)) 2
  try have u3_8 : σ3 18 3 = σ 18 3 := by first | exact o3 3 (by decide) | exact congrFun (f3 18 (by decide)) 3
  refine pe_aload_n d_Q_sendSequence_6 rfl ?_
  refine pe_bipush d_Q_sendSequence_7 ?_
  refine pe_any (fun v9 hv9 => ?_)
  refine pe_v1v d_Q_sendSequence_9 c_Q_126 i_Q_put s_Q_put rfl rfl (y_Q_put hB (by omega) (by first | exact hB _ _ | exact hB0 _ _ | exact hBt _ _ | exact ⟨by omega, by omega⟩)) (fun σ9 hz9 => ?_)
  obtain ⟨hB, f9, x9⟩ := hz9
  try have u9_0 : σ9 24 1 = σ3 24 1 := by first | exact o9 1 (by decide) | exact congrFun (f9 24 (by decide)) 1
  try have u9_1 : σ9 24 2 = σ3 24 2 := by first | exact o9 2 (by decide) | exact congrFun (f9 24 (by decide)) 2
  try have u9_2 : σ9 24 3 = σ3 24 3 := by first | exact o9 3 (by decide) | exact congrFun (f9 24 (by decide)) 3
  try have u9_3 : σ9 24 4 = σ3 24 4 := by first | exact o9 4 (by decide) | exact congrFun (f9 24 (by decide)) 4
  try have u9_4 : σ9 25 2 = σ3 25 2 := by first | exact o9 2 (by decide) | exact congrFun (f9 25 (by decide)) 2
  try have u9_5 : σ9 25 3 = σ3 25 3 := by first | exact o9 3 (by decide) | exact congrFun (f9 25 (by decide)) 3
  try have u9_6 : σ9 23 2 = σ3 23 2 := by first | exact o9 2 (by decide) | exact congrFun (f9 23 (by decide)) 2
  try have u9_7 : σ9 18 2 = σ3 18 2 := by first | exact o9 2 (by decide) | exact congrFun (f9 18 (by decide)) 2
  try have u9_8 : σ9 18 3 = σ3 18 3 := by first | exact o9 3 (by decide) | exact congrFun (f9 18 (by decide)) 3
  refine pe_aload_n d_Q_sendSequence_12 rfl ?_
  refine pe_iload_n d_Q_sendSequence_13 rfl ?_
  refine pe_v1v d_Q_sendSequence_14 c_Q_129 i_Q_putNumber s_Q_putNumber rfl rfl (y_Q_putNumber hB (by omega) (by omega)) (fun σ14 hz14 => ?_)
  obtain ⟨hB, f14, x14⟩ := hz14
  try have u14_0 : σ14 24 1 = σ9 24 1 := by first | exact o14 1 (by decide) | exact congrFun (f14 24 (by decide)) 1
  try have u14_1 : σ14 24 2 = σ9 24 2 := by first | exact o14 2 (by decide) | exact congrFun (f14 24 (by decide)) 2
  try have u14_2 : σ14 24 3 = σ9 24 3 := by first | exact o14 3 (by decide) | exact congrFun (f14 24 (by decide)) 3
  try have u14_3 : σ14 24 4 = σ9 24 4 := by first | exact o14 4 (by decide) | exact congrFun (f14 24 (by decide)) 4
  try have u14_4 : σ14 25 2 = σ9 25 2 := by first | exact o14 2 (by decide) | exact congrFun (f14 25 (by decide)) 2
  try have u14_5 : σ14 25 3 = σ9 25 3 := by first | exact o14 3 (by decide) | exact congrFun (f14 25 (by decide)) 3
  try have u14_6 : σ14 23 2 = σ9 23 2 := by first | exact o14 2 (by decide) | exact congrFun (f14 23 (by decide)) 2
  try have u14_7 : σ14 18 2 = σ9 18 2 := by first | exact o14 2 (by decide) | exact congrFun (f14 18 (by decide)) 2
  try have u14_8 : σ14 18 3 = σ9 18 3 := by first | exact o14 3 (by decide) | exact congrFun (f14 18 (by decide)) 3
  refine pe_iload_n d_Q_sendSequence_17 rfl ?_
  refine pe_iconst d_Q_sendSequence_18 ?_
  refine pe_icmp_eq (t := 33) d_Q_sendSequence_19 (by first | exact hB _ _ | exact hB0 _ _ | exact hBt _ _ | exact ⟨by omega, by omega⟩) (by first | exact hB _ _ | exact hB0 _ _ | exact hBt _ _ | exact ⟨by omega, by omega⟩) (fun h19 => ?_) (fun h19 => ?_)
  · skip
    refine pe_aload_n d_Q_sendSequence_33 rfl ?_
    refine pe_iload_n d_Q_sendSequence_34 rfl ?_
    refine pe_any (fun v35 hv35 => ?_)
    refine pe_v1v d_Q_sendSequence_35 c_Q_126 i_Q_put s_Q_put rfl rfl (y_Q_put hB (by omega) (by first | exact hB _ _ | exact hB0 _ _ | exact hBt _ _ | exact ⟨by omega, by omega⟩)) (fun σ35 hz35 => ?_)
    obtain ⟨hB, f35, x35⟩ := hz35
    try have u35_0 : σ35 24 1 = σ14 24 1 := by first | exact o35 1 (by decide) | exact congrFun (f35 24 (by decide)) 1
    try have u35_1 : σ35 24 2 = σ14 24 2 := by first | exact o35 2 (by decide) | exact congrFun (f35 24 (by decide)) 2
    try have u35_2 : σ35 24 3 = σ14 24 3 := by first | exact o35 3 (by decide) | exact congrFun (f35 24 (by decide)) 3
    try have u35_3 : σ35 24 4 = σ14 24 4 := by first | exact o35 4 (by decide) | exact congrFun (f35 24 (by decide)) 4
    try have u35_4 : σ35 25 2 = σ14 25 2 := by first | exact o35 2 (by decide) | exact congrFun (f35 25 (by decide)) 2
    try have u35_5 : σ35 25 3 = σ14 25 3 := by first | exact o35 3 (by decide) | exact congrFun (f35 25 (by decide)) 3
    try have u35_6 : σ35 23 2 = σ14 23 2 := by first | exact o35 2 (by decide) | exact congrFun (f35 23 (by decide)) 2
    try have u35_7 : σ35 18 2 = σ14 18 2 := by first | exact o35 2 (by decide) | exact congrFun (f35 18 (by decide)) 2
    try have u35_8 : σ35 18 3 = σ14 18 3 := by first | exact o35 3 (by decide) | exact congrFun (f35 18 (by decide)) 3
    refine pe_rv d_Q_sendSequence_38 ?_
    exact ⟨hB, (fun b hb => (f35 b (by simp at hb ⊢; try omega)).trans ((f14 b (by simp at hb ⊢; try omega)).trans ((f9 b (by simp at hb ⊢; try omega)).trans ((f3 b (by simp at hb ⊢; try omega)).trans (rfl))))), by omega⟩
  · skip
    refine pe_aload_n d_Q_sendSequence_22 rfl ?_
    refine pe_bipush d_Q_sendSequence_23 ?_
    refine pe_any (fun v25 hv25 => ?_)
    refine pe_v1v d_Q_sendSequence_25 c_Q_126 i_Q_put s_Q_put rfl rfl (y_Q_put hB (by omega) (by first | exact hB _ _ | exact hB0 _ _ | exact hBt _ _ | exact ⟨by omega, by omega⟩)) (fun σ25 hz25 => ?_)
    obtain ⟨hB, f25, x25⟩ := hz25
    try have u25_0 : σ25 24 1 = σ14 24 1 := by first | exact o25 1 (by decide) | exact congrFun (f25 24 (by decide)) 1
    try have u25_1 : σ25 24 2 = σ14 24 2 := by first | exact o25 2 (by decide) | exact congrFun (f25 24 (by decide)) 2
    try have u25_2 : σ25 24 3 = σ14 24 3 := by first | exact o25 3 (by decide) | exact congrFun (f25 24 (by decide)) 3
    try have u25_3 : σ25 24 4 = σ14 24 4 := by first | exact o25 4 (by decide) | exact congrFun (f25 24 (by decide)) 4
    try have u25_4 : σ25 25 2 = σ14 25 2 := by first | exact o25 2 (by decide) | exact congrFun (f25 25 (by decide)) 2
    try have u25_5 : σ25 25 3 = σ14 25 3 := by first | exact o25 3 (by decide) | exact congrFun (f25 25 (by decide)) 3
    try have u25_6 : σ25 23 2 = σ14 23 2 := by first | exact o25 2 (by decide) | exact congrFun (f25 23 (by decide)) 2
    try have u25_7 : σ25 18 2 = σ14 18 2 := by first | exact o25 2 (by decide) | exact congrFun (f25 18 (by decide)) 2
    try have u25_8 : σ25 18 3 = σ14 18 3 := by first | exact o25 3 (by decide) | exact congrFun (f25 18 (by decide)) 3
    refine pe_aload_n d_Q_sendSequence_28 rfl ?_
    refine pe_iload_n d_Q_sendSequence_29 rfl ?_
    refine pe_v1v d_Q_sendSequence_30 c_Q_129 i_Q_putNumber s_Q_putNumber rfl rfl (y_Q_putNumber hB (by omega) (by omega)) (fun σ30 hz30 => ?_)
    obtain ⟨hB, f30, x30⟩ := hz30
    try have u30_0 : σ30 24 1 = σ25 24 1 := by first | exact o30 1 (by decide) | exact congrFun (f30 24 (by decide)) 1
    try have u30_1 : σ30 24 2 = σ25 24 2 := by first | exact o30 2 (by decide) | exact congrFun (f30 24 (by decide)) 2
    try have u30_2 : σ30 24 3 = σ25 24 3 := by first | exact o30 3 (by decide) | exact congrFun (f30 24 (by decide)) 3
    try have u30_3 : σ30 24 4 = σ25 24 4 := by first | exact o30 4 (by decide) | exact congrFun (f30 24 (by decide)) 4
    try have u30_4 : σ30 25 2 = σ25 25 2 := by first | exact o30 2 (by decide) | exact congrFun (f30 25 (by decide)) 2
    try have u30_5 : σ30 25 3 = σ25 25 3 := by first | exact o30 3 (by decide) | exact congrFun (f30 25 (by decide)) 3
    try have u30_6 : σ30 23 2 = σ25 23 2 := by first | exact o30 2 (by decide) | exact congrFun (f30 23 (by decide)) 2
    try have u30_7 : σ30 18 2 = σ25 18 2 := by first | exact o30 2 (by decide) | exact congrFun (f30 18 (by decide)) 2
    try have u30_8 : σ30 18 3 = σ25 18 3 := by first | exact o30 3 (by decide) | exact congrFun (f30 18 (by decide)) 3
    refine pe_aload_n d_Q_sendSequence_33 rfl ?_
    refine pe_iload_n d_Q_sendSequence_34 rfl ?_
    refine pe_any (fun v35 hv35 => ?_)
    refine pe_v1v d_Q_sendSequence_35 c_Q_126 i_Q_put s_Q_put rfl rfl (y_Q_put hB (by omega) (by first | exact hB _ _ | exact hB0 _ _ | exact hBt _ _ | exact ⟨by omega, by omega⟩)) (fun σ35 hz35 => ?_)
    obtain ⟨hB, f35, x35⟩ := hz35
    try have u35_0 : σ35 24 1 = σ30 24 1 := by first | exact o35 1 (by decide) | exact congrFun (f35 24 (by decide)) 1
    try have u35_1 : σ35 24 2 = σ30 24 2 := by first | exact o35 2 (by decide) | exact congrFun (f35 24 (by decide)) 2
    try have u35_2 : σ35 24 3 = σ30 24 3 := by first | exact o35 3 (by decide) | exact congrFun (f35 24 (by decide)) 3
    try have u35_3 : σ35 24 4 = σ30 24 4 := by first | exact o35 4 (by decide) | exact congrFun (f35 24 (by decide)) 4
    try have u35_4 : σ35 25 2 = σ30 25 2 := by first | exact o35 2 (by decide) | exact congrFun (f35 25 (by decide)) 2
    try have u35_5 : σ35 25 3 = σ30 25 3 := by first | exact o35 3 (by decide) | exact congrFun (f35 25 (by decide)) 3
    try have u35_6 : σ35 23 2 = σ30 23 2 := by first | exact o35 2 (by decide) | exact congrFun (f35 23 (by decide)) 2
    try have u35_7 : σ35 18 2 = σ30 18 2 := by first | exact o35 2 (by decide) | exact congrFun (f35 18 (by decide)) 2
    try have u35_8 : σ35 18 3 = σ30 18 3 := by first | exact o35 3 (by decide) | exact congrFun (f35 18 (by decide)) 3
    refine pe_rv d_Q_sendSequence_38 ?_
    exact ⟨hB, (fun b hb => (f35 b (by simp at hb ⊢; try omega)).trans ((f30 b (by simp at hb ⊢; try omega)).trans ((f25 b (by simp at hb ⊢; try omega)).trans ((f14 b (by simp at hb ⊢; try omega)).trans ((f9 b (by simp at hb ⊢; try omega)).trans ((f3 b (by simp at hb ⊢; try omega)).trans (rfl))))))), by omega⟩
theorem y_Q_sendLook {σ : pe_H} {k : Int} (hB : pe_B σ) (hq : 0 ≤ σ 23 2 ∧ σ 23 2 ≤ 2000) (hk : k = 0 ∨ k = 1) : pe_M m_Q_sendLook [pe_r 23, pe_i k] σ (pe_qv (fun σ' => pe_B σ' ∧ (∀ b, b ∉ [23, 24, 28] → σ' b = σ b) ∧ ((k = 0 → σ' 23 2 = σ 23 2 + 4) ∧ (k = 1 → σ' 23 2 = σ 23 2 + 6)) ∧ σ' 24 4 = k ∧ ∀ j, j ≠ 4 → σ' 24 j = σ 24 j)) := by
  refine pe_in0 (lv := [some (pe_r 23), some (pe_i k), none]) ?_
  have hB0 := hB
  refine pe_iload_n d_Q_sendLook_0 rfl ?_
  refine pe_iconst d_Q_sendLook_1 ?_
  refine pe_icmp_ne (t := 10) d_Q_sendLook_2 (by first | exact hB _ _ | exact hB0 _ _ | exact hBt _ _ | exact ⟨by omega, by omega⟩) (by first | exact hB _ _ | exact hB0 _ _ | exact hBt _ _ | exact ⟨by omega, by omega⟩) (fun h2 => ?_) (fun h2 => ?_)
  · skip
    refine pe_iload_n d_Q_sendLook_10 rfl ?_
    refine pe_iconst d_Q_sendLook_11 ?_
    refine pe_icmp_ne (t := 19) d_Q_sendLook_12 (by first | exact hB _ _ | exact hB0 _ _ | exact hBt _ _ | exact ⟨by omega, by omega⟩) (by first | exact hB _ _ | exact hB0 _ _ | exact hBt _ _ | exact ⟨by omega, by omega⟩) (fun h12 => ?_) (fun h12 => ?_)
    · skip
      refine pe_iconst d_Q_sendLook_19 ?_
      refine pe_istore_n d_Q_sendLook_20 ?_
      refine pe_aload_n d_Q_sendLook_21 rfl ?_
      refine pe_iconst d_Q_sendLook_22 ?_
      refine pe_iload_n d_Q_sendLook_23 rfl ?_
      refine pe_bipush d_Q_sendLook_24 ?_
      refine pe_v3v d_Q_sendLook_26 c_Q_32 i_Q_sendSequence s_Q_sendSequence rfl rfl (y_Q_sendSequence hB (by omega) (by omega) (by omega) (by first | exact hB _ _ | exact hB0 _ _ | exact hBt _ _ | exact ⟨by omega, by omega⟩)) (fun σ26 hz26 => ?_)
      obtain ⟨hB, f26, x26⟩ := hz26
      try have u26_0 : σ26 24 1 = σ 24 1 := by first | exact o26 1 (by decide) | exact congrFun (f26 24 (by decide)) 1
      try have u26_1 : σ26 24 2 = σ 24 2 := by first | exact o26 2 (by decide) | exact congrFun (f26 24 (by decide)) 2
      try have u26_2 : σ26 24 3 = σ 24 3 := by first | exact o26 3 (by decide) | exact congrFun (f26 24 (by decide)) 3
      try have u26_3 : σ26 24 4 = σ 24 4 := by first | exact o26 4 (by decide) | exact congrFun (f26 24 (by decide)) 4
      try have u26_4 : σ26 25 2 = σ 25 2 := by first | exact o26 2 (by decide) | exact congrFun (f26 25 (by decide)) 2
      try have u26_5 : σ26 25 3 = σ 25 3 := by first | exact o26 3 (by decide) | exact congrFun (f26 25 (by decide)) 3
      try have u26_6 : σ26 23 2 = σ 23 2 := by first | exact o26 2 (by decide) | exact congrFun (f26 23 (by decide)) 2
      try have u26_7 : σ26 18 2 = σ 18 2 := by first | exact o26 2 (by decide) | exact congrFun (f26 18 (by decide)) 2
      try have u26_8 : σ26 18 3 = σ 18 3 := by first | exact o26 3 (by decide) | exact congrFun (f26 18 (by decide)) 3
      refine pe_aload_n d_Q_sendLook_29 rfl ?_
      refine pe_getr f_Q_20 d_Q_sendLook_30 rfl rfl ?_
      refine pe_iload_n d_Q_sendLook_33 rfl ?_
      refine pe_putiT f_Q_101 g_10_4 d_Q_sendLook_34 rfl rfl 4 rfl hB (by first | exact hB _ _ | exact hB0 _ _ | exact hBt _ _ | exact ⟨by omega, by omega⟩) (fun σ34 hB e34 o34 f34 => ?_)
      try have u34_0 : σ34 24 1 = σ26 24 1 := by first | exact o34 1 (by decide) | exact congrFun (f34 24 (by decide)) 1
      try have u34_1 : σ34 24 2 = σ26 24 2 := by first | exact o34 2 (by decide) | exact congrFun (f34 24 (by decide)) 2
      try have u34_2 : σ34 24 3 = σ26 24 3 := by first | exact o34 3 (by decide) | exact congrFun (f34 24 (by decide)) 3
      try have u34_3 : σ34 24 4 = σ26 24 4 := by first | exact o34 4 (by decide) | exact congrFun (f34 24 (by decide)) 4
      try have u34_4 : σ34 25 2 = σ26 25 2 := by first | exact o34 2 (by decide) | exact congrFun (f34 25 (by decide)) 2
      try have u34_5 : σ34 25 3 = σ26 25 3 := by first | exact o34 3 (by decide) | exact congrFun (f34 25 (by decide)) 3
      try have u34_6 : σ34 23 2 = σ26 23 2 := by first | exact o34 2 (by decide) | exact congrFun (f34 23 (by decide)) 2
      try have u34_7 : σ34 18 2 = σ26 18 2 := by first | exact o34 2 (by decide) | exact congrFun (f34 18 (by decide)) 2
      try have u34_8 : σ34 18 3 = σ26 18 3 := by first | exact o34 3 (by decide) | exact congrFun (f34 18 (by decide)) 3
      refine pe_rv d_Q_sendLook_37 ?_
      first | (exfalso; omega) | exact ⟨hB, (fun b hb => (f34 b (by simp at hb ⊢; try omega)).trans ((f26 b (by simp at hb ⊢; try omega)).trans (rfl))), by omega, e34, fun j hj => (o34 j hj).trans (congrFun (f26 24 (by decide)) j)⟩
    · skip
      refine pe_iconst d_Q_sendLook_15 ?_
      refine pe_goto (t := 20) d_Q_sendLook_16 ?_
      refine pe_istore_n d_Q_sendLook_20 ?_
      refine pe_aload_n d_Q_sendLook_21 rfl ?_
      refine pe_iconst d_Q_sendLook_22 ?_
      refine pe_iload_n d_Q_sendLook_23 rfl ?_
      refine pe_bipush d_Q_sendLook_24 ?_
      refine pe_v3v d_Q_sendLook_26 c_Q_32 i_Q_sendSequence s_Q_sendSequence rfl rfl (y_Q_sendSequence hB (by omega) (by omega) (by omega) (by first | exact hB _ _ | exact hB0 _ _ | exact hBt _ _ | exact ⟨by omega, by omega⟩)) (fun σ26 hz26 => ?_)
      obtain ⟨hB, f26, x26⟩ := hz26
      try have u26_0 : σ26 24 1 = σ 24 1 := by first | exact o26 1 (by decide) | exact congrFun (f26 24 (by decide)) 1
      try have u26_1 : σ26 24 2 = σ 24 2 := by first | exact o26 2 (by decide) | exact congrFun (f26 24 (by decide)) 2
      try have u26_2 : σ26 24 3 = σ 24 3 := by first | exact o26 3 (by decide) | exact congrFun (f26 24 (by decide)) 3
      try have u26_3 : σ26 24 4 = σ 24 4 := by first | exact o26 4 (by decide) | exact congrFun (f26 24 (by decide)) 4
      try have u26_4 : σ26 25 2 = σ 25 2 := by first | exact o26 2 (by decide) | exact congrFun (f26 25 (by decide)) 2
      try have u26_5 : σ26 25 3 = σ 25 3 := by first | exact o26 3 (by decide) | exact congrFun (f26 25 (by decide)) 3
      try have u26_6 : σ26 23 2 = σ 23 2 := by first | exact o26 2 (by decide) | exact congrFun (f26 23 (by decide)) 2
      try have u26_7 : σ26 18 2 = σ 18 2 := by first | exact o26 2 (by decide) | exact congrFun (f26 18 (by decide)) 2
      try have u26_8 : σ26 18 3 = σ 18 3 := by first | exact o26 3 (by decide) | exact congrFun (f26 18 (by decide)) 3
      refine pe_aload_n d_Q_sendLook_29 rfl ?_
      refine pe_getr f_Q_20 d_Q_sendLook_30 rfl rfl ?_
      refine pe_iload_n d_Q_sendLook_33 rfl ?_
      refine pe_putiT f_Q_101 g_10_4 d_Q_sendLook_34 rfl rfl 4 rfl hB (by first | exact hB _ _ | exact hB0 _ _ | exact hBt _ _ | exact ⟨by omega, by omega⟩) (fun σ34 hB e34 o34 f34 => ?_)
      try have u34_0 : σ34 24 1 = σ26 24 1 := by first | exact o34 1 (by decide) | exact congrFun (f34 24 (by decide)) 1
      try have u34_1 : σ34 24 2 = σ26 24 2 := by first | exact o34 2 (by decide) | exact congrFun (f34 24 (by decide)) 2
      try have u34_2 : σ34 24 3 = σ26 24 3 := by first | exact o34 3 (by decide) | exact congrFun (f34 24 (by decide)) 3
      try have u34_3 : σ34 24 4 = σ26 24 4 := by first | exact o34 4 (by decide) | exact congrFun (f34 24 (by decide)) 4
      try have u34_4 : σ34 25 2 = σ26 25 2 := by first | exact o34 2 (by decide) | exact congrFun (f34 25 (by decide)) 2
      try have u34_5 : σ34 25 3 = σ26 25 3 := by first | exact o34 3 (by decide) | exact congrFun (f34 25 (by decide)) 3
      try have u34_6 : σ34 23 2 = σ26 23 2 := by first | exact o34 2 (by decide) | exact congrFun (f34 23 (by decide)) 2
      try have u34_7 : σ34 18 2 = σ26 18 2 := by first | exact o34 2 (by decide) | exact congrFun (f34 18 (by decide)) 2
      try have u34_8 : σ34 18 3 = σ26 18 3 := by first | exact o34 3 (by decide) | exact congrFun (f34 18 (by decide)) 3
      refine pe_rv d_Q_sendLook_37 ?_
      first | (exfalso; omega) | exact ⟨hB, (fun b hb => (f34 b (by simp at hb ⊢; try omega)).trans ((f26 b (by simp at hb ⊢; try omega)).trans (rfl))), by omega, e34, fun j hj => (o34 j hj).trans (congrFun (f26 24 (by decide)) j)⟩
  · skip
    refine pe_bipush d_Q_sendLook_5 ?_
    refine pe_goto (t := 20) d_Q_sendLook_7 ?_
    refine pe_istore_n d_Q_sendLook_20 ?_
    refine pe_aload_n d_Q_sendLook_21 rfl ?_
    refine pe_iconst d_Q_sendLook_22 ?_
    refine pe_iload_n d_Q_sendLook_23 rfl ?_
    refine pe_bipush d_Q_sendLook_24 ?_
    refine pe_v3v d_Q_sendLook_26 c_Q_32 i_Q_sendSequence s_Q_sendSequence rfl rfl (y_Q_sendSequence hB (by omega) (by omega) (by omega) (by first | exact hB _ _ | exact hB0 _ _ | exact hBt _ _ | exact ⟨by omega, by omega⟩)) (fun σ26 hz26 => ?_)
    obtain ⟨hB, f26, x26⟩ := hz26
    try have u26_0 : σ26 24 1 = σ 24 1 := by first | exact o26 1 (by decide) | exact congrFun (f26 24 (by decide)) 1
    try have u26_1 : σ26 24 2 = σ 24 2 := by first | exact o26 2 (by decide) | exact congrFun (f26 24 (by decide)) 2
    try have u26_2 : σ26 24 3 = σ 24 3 := by first | exact o26 3 (by decide) | exact congrFun (f26 24 (by decide)) 3
    try have u26_3 : σ26 24 4 = σ 24 4 := by first | exact o26 4 (by decide) | exact congrFun (f26 24 (by decide)) 4
    try have u26_4 : σ26 25 2 = σ 25 2 := by first | exact o26 2 (by decide) | exact congrFun (f26 25 (by decide)) 2
    try have u26_5 : σ26 25 3 = σ 25 3 := by first | exact o26 3 (by decide) | exact congrFun (f26 25 (by decide)) 3
    try have u26_6 : σ26 23 2 = σ 23 2 := by first | exact o26 2 (by decide) | exact congrFun (f26 23 (by decide)) 2
    try have u26_7 : σ26 18 2 = σ 18 2 := by first | exact o26 2 (by decide) | exact congrFun (f26 18 (by decide)) 2
    try have u26_8 : σ26 18 3 = σ 18 3 := by first | exact o26 3 (by decide) | exact congrFun (f26 18 (by decide)) 3
    refine pe_aload_n d_Q_sendLook_29 rfl ?_
    refine pe_getr f_Q_20 d_Q_sendLook_30 rfl rfl ?_
    refine pe_iload_n d_Q_sendLook_33 rfl ?_
    refine pe_putiT f_Q_101 g_10_4 d_Q_sendLook_34 rfl rfl 4 rfl hB (by first | exact hB _ _ | exact hB0 _ _ | exact hBt _ _ | exact ⟨by omega, by omega⟩) (fun σ34 hB e34 o34 f34 => ?_)
    try have u34_0 : σ34 24 1 = σ26 24 1 := by first | exact o34 1 (by decide) | exact congrFun (f34 24 (by decide)) 1
    try have u34_1 : σ34 24 2 = σ26 24 2 := by first | exact o34 2 (by decide) | exact congrFun (f34 24 (by decide)) 2
    try have u34_2 : σ34 24 3 = σ26 24 3 := by first | exact o34 3 (by decide) | exact congrFun (f34 24 (by decide)) 3
    try have u34_3 : σ34 24 4 = σ26 24 4 := by first | exact o34 4 (by decide) | exact congrFun (f34 24 (by decide)) 4
    try have u34_4 : σ34 25 2 = σ26 25 2 := by first | exact o34 2 (by decide) | exact congrFun (f34 25 (by decide)) 2
    try have u34_5 : σ34 25 3 = σ26 25 3 := by first | exact o34 3 (by decide) | exact congrFun (f34 25 (by decide)) 3
    try have u34_6 : σ34 23 2 = σ26 23 2 := by first | exact o34 2 (by decide) | exact congrFun (f34 23 (by decide)) 2
    try have u34_7 : σ34 18 2 = σ26 18 2 := by first | exact o34 2 (by decide) | exact congrFun (f34 18 (by decide)) 2
    try have u34_8 : σ34 18 3 = σ26 18 3 := by first | exact o34 3 (by decide) | exact congrFun (f34 18 (by decide)) 3
    refine pe_rv d_Q_sendLook_37 ?_
    first | (exfalso; omega) | exact ⟨hB, (fun b hb => (f34 b (by simp at hb ⊢; try omega)).trans ((f26 b (by simp at hb ⊢; try omega)).trans (rfl))), by omega, e34, fun j hj => (o34 j hj).trans (congrFun (f26 24 (by decide)) j)⟩
theorem y_Z_endWriting {σ : pe_H} (hB : pe_B σ) : pe_M m_Z_endWriting [pe_r 24] σ (pe_qv (fun σ' => pe_B σ' ∧ (∀ b, b ∉ [24] → σ' b = σ b) ∧ σ' 24 3 = 0 ∧ ∀ j, j ≠ 3 → j ≠ 7 → σ' 24 j = σ 24 j)) := by
  refine pe_in0 (lv := [some (pe_r 24)]) ?_
  have hB0 := hB
  refine pe_aload_n d_Z_endWriting_0 rfl ?_
  refine pe_iconst d_Z_endWriting_1 ?_
  refine pe_putzT f_Z_29 g_10_3 d_Z_endWriting_2 rfl rfl (by first | exact Or.inl rfl | exact Or.inr rfl | omega) 3 rfl hB (fun σ2 hB e2 o2 f2 => ?_)
  try have u2_0 : σ2 24 1 = σ 24 1 := by first | exact o2 1 (by decide) | exact congrFun (f2 24 (by decide)) 1
  try have u2_1 : σ2 24 2 = σ 24 2 := by first | exact o2 2 (by decide) | exact congrFun (f2 24 (by decide)) 2
  try have u2_2 : σ2 24 3 = σ 24 3 := by first | exact o2 3 (by decide) | exact congrFun (f2 24 (by decide)) 3
  try have u2_3 : σ2 24 4 = σ 24 4 := by first | exact o2 4 (by decide) | exact congrFun (f2 24 (by decide)) 4
  try have u2_4 : σ2 25 2 = σ 25 2 := by first | exact o2 2 (by decide) | exact congrFun (f2 25 (by decide)) 2
  try have u2_5 : σ2 25 3 = σ 25 3 := by first | exact o2 3 (by decide) | exact congrFun (f2 25 (by decide)) 3
  try have u2_6 : σ2 23 2 = σ 23 2 := by first | exact o2 2 (by decide) | exact congrFun (f2 23 (by decide)) 2
  try have u2_7 : σ2 18 2 = σ 18 2 := by first | exact o2 2 (by decide) | exact congrFun (f2 18 (by decide)) 2
  try have u2_8 : σ2 18 3 = σ 18 3 := by first | exact o2 3 (by decide) | exact congrFun (f2 18 (by decide)) 3
  refine pe_aload_n d_Z_endWriting_5 rfl ?_
  refine pe_iconst d_Z_endWriting_6 ?_
  refine pe_putzT f_Z_69 g_10_7 d_Z_endWriting_7 rfl rfl (by first | exact Or.inl rfl | exact Or.inr rfl | omega) 7 rfl hB (fun σ7 hB e7 o7 f7 => ?_)
  try have u7_0 : σ7 24 1 = σ2 24 1 := by first | exact o7 1 (by decide) | exact congrFun (f7 24 (by decide)) 1
  try have u7_1 : σ7 24 2 = σ2 24 2 := by first | exact o7 2 (by decide) | exact congrFun (f7 24 (by decide)) 2
  try have u7_2 : σ7 24 3 = σ2 24 3 := by first | exact o7 3 (by decide) | exact congrFun (f7 24 (by decide)) 3
  try have u7_3 : σ7 24 4 = σ2 24 4 := by first | exact o7 4 (by decide) | exact congrFun (f7 24 (by decide)) 4
  try have u7_4 : σ7 25 2 = σ2 25 2 := by first | exact o7 2 (by decide) | exact congrFun (f7 25 (by decide)) 2
  try have u7_5 : σ7 25 3 = σ2 25 3 := by first | exact o7 3 (by decide) | exact congrFun (f7 25 (by decide)) 3
  try have u7_6 : σ7 23 2 = σ2 23 2 := by first | exact o7 2 (by decide) | exact congrFun (f7 23 (by decide)) 2
  try have u7_7 : σ7 18 2 = σ2 18 2 := by first | exact o7 2 (by decide) | exact congrFun (f7 18 (by decide)) 2
  try have u7_8 : σ7 18 3 = σ2 18 3 := by first | exact o7 3 (by decide) | exact congrFun (f7 18 (by decide)) 3
  refine pe_rv d_Z_endWriting_10 ?_
  exact ⟨hB, (fun b hb => (f7 b (by simp at hb ⊢; try omega)).trans ((f2 b (by simp at hb ⊢; try omega)).trans (rfl))), by rw [o7 3 (by decide)]; exact e2, fun j h1 h2 => (o7 j h2).trans (o2 j h1)⟩
theorem y_Z_moveTo {σ : pe_H} {r c : Int} (hB : pe_B σ) (hr : 0 ≤ r ∧ r ≤ 8) (hc : 0 ≤ c ∧ c ≤ 24) : pe_M m_Z_moveTo [pe_r 24, pe_i r, pe_i c] σ (pe_qv (fun σ' => pe_B σ' ∧ (∀ b, b ∉ [24] → σ' b = σ b) ∧ σ' 24 1 = r ∧ σ' 24 2 = c ∧ σ' 24 3 = 0 ∧ σ' 24 4 = σ 24 4)) := by
  refine pe_in0 (lv := [some (pe_r 24), some (pe_i r), some (pe_i c)]) ?_
  have hB0 := hB
  refine pe_aload_n d_Z_moveTo_0 rfl ?_
  refine pe_iload_n d_Z_moveTo_1 rfl ?_
  refine pe_putiT f_Z_33 g_10_1 d_Z_moveTo_2 rfl rfl 1 rfl hB (by first | exact hB _ _ | exact hB0 _ _ | exact hBt _ _ | exact ⟨by omega, by omega⟩) (fun σ2 hB e2 o2 f2 => ?_)
  try have u2_0 : σ2 24 1 = σ 24 1 := by first | exact o2 1 (by decide) | exact congrFun (f2 24 (by decide)) 1
  try have u2_1 : σ2 24 2 = σ 24 2 := by first | exact o2 2 (by decide) | exact congrFun (f2 24 (by decide)) 2
  try have u2_2 : σ2 24 3 = σ 24 3 := by first | exact o2 3 (by decide) | exact congrFun (f2 24 (by decide)) 3
  try have u2_3 : σ2 24 4 = σ 24 4 := by first | exact o2 4 (by decide) | exact congrFun (f2 24 (by decide)) 4
  try have u2_4 : σ2 25 2 = σ 25 2 := by first | exact o2 2 (by decide) | exact congrFun (f2 25 (by decide)) 2
  try have u2_5 : σ2 25 3 = σ 25 3 := by first | exact o2 3 (by decide) | exact congrFun (f2 25 (by decide)) 3
  try have u2_6 : σ2 23 2 = σ 23 2 := by first | exact o2 2 (by decide) | exact congrFun (f2 23 (by decide)) 2
  try have u2_7 : σ2 18 2 = σ 18 2 := by first | exact o2 2 (by decide) | exact congrFun (f2 18 (by decide)) 2
  try have u2_8 : σ2 18 3 = σ 18 3 := by first | exact o2 3 (by decide) | exact congrFun (f2 18 (by decide)) 3
  refine pe_aload_n d_Z_moveTo_5 rfl ?_
  refine pe_iload_n d_Z_moveTo_6 rfl ?_
  refine pe_putiT f_Z_46 g_10_2 d_Z_moveTo_7 rfl rfl 2 rfl hB (by first | exact hB _ _ | exact hB0 _ _ | exact hBt _ _ | exact ⟨by omega, by omega⟩) (fun σ7 hB e7 o7 f7 => ?_)
  try have u7_0 : σ7 24 1 = σ2 24 1 := by first | exact o7 1 (by decide) | exact congrFun (f7 24 (by decide)) 1
  try have u7_1 : σ7 24 2 = σ2 24 2 := by first | exact o7 2 (by decide) | exact congrFun (f7 24 (by decide)) 2
  try have u7_2 : σ7 24 3 = σ2 24 3 := by first | exact o7 3 (by decide) | exact congrFun (f7 24 (by decide)) 3
  try have u7_3 : σ7 24 4 = σ2 24 4 := by first | exact o7 4 (by decide) | exact congrFun (f7 24 (by decide)) 4
  try have u7_4 : σ7 25 2 = σ2 25 2 := by first | exact o7 2 (by decide) | exact congrFun (f7 25 (by decide)) 2
  try have u7_5 : σ7 25 3 = σ2 25 3 := by first | exact o7 3 (by decide) | exact congrFun (f7 25 (by decide)) 3
  try have u7_6 : σ7 23 2 = σ2 23 2 := by first | exact o7 2 (by decide) | exact congrFun (f7 23 (by decide)) 2
  try have u7_7 : σ7 18 2 = σ2 18 2 := by first | exact o7 2 (by decide) | exact congrFun (f7 18 (by decide)) 2
  try have u7_8 : σ7 18 3 = σ2 18 3 := by first | exact o7 3 (by decide) | exact congrFun (f7 18 (by decide)) 3
  refine pe_aload_n d_Z_moveTo_10 rfl ?_
  refine pe_v0v d_Z_moveTo_11 c_Z_88 i_Z_endWriting s_Z_endWriting rfl rfl (y_Z_endWriting hB) (fun σ11 hz11 => ?_)
  obtain ⟨hB, f11, x11⟩ := hz11
  try have u11_0 : σ11 24 1 = σ7 24 1 := by first | exact o11 1 (by decide) | exact congrFun (f11 24 (by decide)) 1
  try have u11_1 : σ11 24 2 = σ7 24 2 := by first | exact o11 2 (by decide) | exact congrFun (f11 24 (by decide)) 2
  try have u11_2 : σ11 24 3 = σ7 24 3 := by first | exact o11 3 (by decide) | exact congrFun (f11 24 (by decide)) 3
  try have u11_3 : σ11 24 4 = σ7 24 4 := by first | exact o11 4 (by decide) | exact congrFun (f11 24 (by decide)) 4
  try have u11_4 : σ11 25 2 = σ7 25 2 := by first | exact o11 2 (by decide) | exact congrFun (f11 25 (by decide)) 2
  try have u11_5 : σ11 25 3 = σ7 25 3 := by first | exact o11 3 (by decide) | exact congrFun (f11 25 (by decide)) 3
  try have u11_6 : σ11 23 2 = σ7 23 2 := by first | exact o11 2 (by decide) | exact congrFun (f11 23 (by decide)) 2
  try have u11_7 : σ11 18 2 = σ7 18 2 := by first | exact o11 2 (by decide) | exact congrFun (f11 18 (by decide)) 2
  try have u11_8 : σ11 18 3 = σ7 18 3 := by first | exact o11 3 (by decide) | exact congrFun (f11 18 (by decide)) 3
  have w1 := x11.2 1 (by decide) (by decide)
  have w2 := x11.2 2 (by decide) (by decide)
  have w4 := x11.2 4 (by decide) (by decide)
  refine pe_rv d_Z_moveTo_14 ?_
  exact ⟨hB, (fun b hb => (f11 b (by simp at hb ⊢; try omega)).trans ((f7 b (by simp at hb ⊢; try omega)).trans ((f2 b (by simp at hb ⊢; try omega)).trans (rfl)))), by omega⟩
theorem y_Z_eraseAll {σ : pe_H} (hB : pe_B σ) : pe_M m_Z_eraseAll [pe_r 24] σ (pe_qv (fun σ' => pe_B σ' ∧ (∀ b, b ∉ [24, 26, 27] → σ' b = σ b) ∧ (∀ j, 0 ≤ j → j < 192 → σ' 26 j = 32 ∧ σ' 27 j = 0) ∧ σ' 24 3 = 0 ∧ ∀ j, j ≠ 3 → j ≠ 7 → σ' 24 j = σ 24 j)) := by
  refine pe_in0 (lv := [some (pe_r 24)]) ?_
  have hB0 := hB
  refine pe_aload_n d_Z_eraseAll_0 rfl ?_
  refine pe_getr f_Z_14 d_Z_eraseAll_1 rfl rfl ?_
  refine pe_v0v d_Z_eraseAll_4 c_Z_94 i_G_blankAll s_G_blankAll rfl rfl (x_G_blankAll_25 hB) (fun σ4 hz4 => ?_)
  obtain ⟨hB, f4, x4⟩ := hz4
  try have u4_0 : σ4 24 1 = σ 24 1 := by first | exact o4 1 (by decide) | exact congrFun (f4 24 (by decide)) 1
  try have u4_1 : σ4 24 2 = σ 24 2 := by first | exact o4 2 (by decide) | exact congrFun (f4 24 (by decide)) 2
  try have u4_2 : σ4 24 3 = σ 24 3 := by first | exact o4 3 (by decide) | exact congrFun (f4 24 (by decide)) 3
  try have u4_3 : σ4 24 4 = σ 24 4 := by first | exact o4 4 (by decide) | exact congrFun (f4 24 (by decide)) 4
  try have u4_4 : σ4 25 2 = σ 25 2 := by first | exact o4 2 (by decide) | exact congrFun (f4 25 (by decide)) 2
  try have u4_5 : σ4 25 3 = σ 25 3 := by first | exact o4 3 (by decide) | exact congrFun (f4 25 (by decide)) 3
  try have u4_6 : σ4 23 2 = σ 23 2 := by first | exact o4 2 (by decide) | exact congrFun (f4 23 (by decide)) 2
  try have u4_7 : σ4 18 2 = σ 18 2 := by first | exact o4 2 (by decide) | exact congrFun (f4 18 (by decide)) 2
  try have u4_8 : σ4 18 3 = σ 18 3 := by first | exact o4 3 (by decide) | exact congrFun (f4 18 (by decide)) 3
  refine pe_aload_n d_Z_eraseAll_7 rfl ?_
  refine pe_v0v d_Z_eraseAll_8 c_Z_88 i_Z_endWriting s_Z_endWriting rfl rfl (y_Z_endWriting hB) (fun σ8 hz8 => ?_)
  obtain ⟨hB, f8, x8⟩ := hz8
  try have u8_0 : σ8 24 1 = σ4 24 1 := by first | exact o8 1 (by decide) | exact congrFun (f8 24 (by decide)) 1
  try have u8_1 : σ8 24 2 = σ4 24 2 := by first | exact o8 2 (by decide) | exact congrFun (f8 24 (by decide)) 2
  try have u8_2 : σ8 24 3 = σ4 24 3 := by first | exact o8 3 (by decide) | exact congrFun (f8 24 (by decide)) 3
  try have u8_3 : σ8 24 4 = σ4 24 4 := by first | exact o8 4 (by decide) | exact congrFun (f8 24 (by decide)) 4
  try have u8_4 : σ8 25 2 = σ4 25 2 := by first | exact o8 2 (by decide) | exact congrFun (f8 25 (by decide)) 2
  try have u8_5 : σ8 25 3 = σ4 25 3 := by first | exact o8 3 (by decide) | exact congrFun (f8 25 (by decide)) 3
  try have u8_6 : σ8 23 2 = σ4 23 2 := by first | exact o8 2 (by decide) | exact congrFun (f8 23 (by decide)) 2
  try have u8_7 : σ8 18 2 = σ4 18 2 := by first | exact o8 2 (by decide) | exact congrFun (f8 18 (by decide)) 2
  try have u8_8 : σ8 18 3 = σ4 18 3 := by first | exact o8 3 (by decide) | exact congrFun (f8 18 (by decide)) 3
  refine pe_rv d_Z_eraseAll_11 ?_
  exact ⟨hB, (fun b hb => (f8 b (by simp at hb ⊢; try omega)).trans ((f4 b (by simp at hb ⊢; try omega)).trans (rfl))), fun j h1 h2 => by rw [f8 26 (by decide), f8 27 (by decide)]; exact x4 j h1 h2, x8.1, fun j h1 h2 => (x8.2 j h1 h2).trans (congrFun (f4 24 (by decide)) j)⟩
theorem y_Q_begin {σ : pe_H} {z : Int} (hB : pe_B σ) (hz : z = 1) : pe_M m_Q_begin [pe_r 23, pe_i z] σ (pe_qv (fun σ' => pe_B σ' ∧ (∀ b, b ∉ [23, 24, 26, 27, 28] → σ' b = σ b) ∧ (∀ j, 0 ≤ j → j < 192 → σ' 26 j = 32 ∧ σ' 27 j = 0) ∧ σ' 23 2 = 8 ∧ σ' 24 1 = σ 24 1 ∧ σ' 24 2 = σ 24 2 ∧ σ' 24 3 = 0 ∧ σ' 24 4 = 0)) := by
  refine pe_in0 (lv := [some (pe_r 23), some (pe_i z)]) ?_
  have hB0 := hB
  refine pe_aload_n d_Q_begin_0 rfl ?_
  refine pe_iconst d_Q_begin_1 ?_
  refine pe_putiT f_Q_24 g_9_2 d_Q_begin_2 rfl rfl 2 rfl hB (by first | exact hB _ _ | exact hB0 _ _ | exact hBt _ _ | exact ⟨by omega, by omega⟩) (fun σ2 hB e2 o2 f2 => ?_)
  try have u2_0 : σ2 24 1 = σ 24 1 := by first | exact o2 1 (by decide) | exact congrFun (f2 24 (by decide)) 1
  try have u2_1 : σ2 24 2 = σ 24 2 := by first | exact o2 2 (by decide) | exact congrFun (f2 24 (by decide)) 2
  try have u2_2 : σ2 24 3 = σ 24 3 := by first | exact o2 3 (by decide) | exact congrFun (f2 24 (by decide)) 3
  try have u2_3 : σ2 24 4 = σ 24 4 := by first | exact o2 4 (by decide) | exact congrFun (f2 24 (by decide)) 4
  try have u2_4 : σ2 25 2 = σ 25 2 := by first | exact o2 2 (by decide) | exact congrFun (f2 25 (by decide)) 2
  try have u2_5 : σ2 25 3 = σ 25 3 := by first | exact o2 3 (by decide) | exact congrFun (f2 25 (by decide)) 3
  try have u2_6 : σ2 23 2 = σ 23 2 := by first | exact o2 2 (by decide) | exact congrFun (f2 23 (by decide)) 2
  try have u2_7 : σ2 18 2 = σ 18 2 := by first | exact o2 2 (by decide) | exact congrFun (f2 18 (by decide)) 2
  try have u2_8 : σ2 18 3 = σ 18 3 := by first | exact o2 3 (by decide) | exact congrFun (f2 18 (by decide)) 3
  refine pe_iload_n d_Q_begin_5 rfl ?_
  refine pe_if_eq (t := 29) d_Q_begin_6 (by first | exact hB _ _ | exact hB0 _ _ | exact hBt _ _ | exact ⟨by omega, by omega⟩) (fun h6 => ?_) (fun h6 => ?_)
  · skip
    refine pe_rv d_Q_begin_29 ?_
    first | (exfalso; omega) | exact ⟨hB, (fun b hb => (f2 b (by simp at hb ⊢; try omega)).trans (rfl)), x26.1, by omega⟩
  · skip
    refine pe_aload_n d_Q_begin_9 rfl ?_
    refine pe_iconst d_Q_begin_10 ?_
    refine pe_v1v d_Q_begin_11 c_Q_28 i_Q_sendLook s_Q_sendLook rfl rfl (y_Q_sendLook hB (by omega) (by omega)) (fun σ11 hz11 => ?_)
    obtain ⟨hB, f11, x11⟩ := hz11
    try have u11_0 : σ11 24 1 = σ2 24 1 := by first | exact o11 1 (by decide) | exact congrFun (f11 24 (by decide)) 1
    try have u11_1 : σ11 24 2 = σ2 24 2 := by first | exact o11 2 (by decide) | exact congrFun (f11 24 (by decide)) 2
    try have u11_2 : σ11 24 3 = σ2 24 3 := by first | exact o11 3 (by decide) | exact congrFun (f11 24 (by decide)) 3
    try have u11_3 : σ11 24 4 = σ2 24 4 := by first | exact o11 4 (by decide) | exact congrFun (f11 24 (by decide)) 4
    try have u11_4 : σ11 25 2 = σ2 25 2 := by first | exact o11 2 (by decide) | exact congrFun (f11 25 (by decide)) 2
    try have u11_5 : σ11 25 3 = σ2 25 3 := by first | exact o11 3 (by decide) | exact congrFun (f11 25 (by decide)) 3
    try have u11_6 : σ11 23 2 = σ2 23 2 := by first | exact o11 2 (by decide) | exact congrFun (f11 23 (by decide)) 2
    try have u11_7 : σ11 18 2 = σ2 18 2 := by first | exact o11 2 (by decide) | exact congrFun (f11 18 (by decide)) 2
    try have u11_8 : σ11 18 3 = σ2 18 3 := by first | exact o11 3 (by decide) | exact congrFun (f11 18 (by decide)) 3
    have p1 := x11.2.2 1 (by decide)
    have p2 := x11.2.2 2 (by decide)
    refine pe_aload_n d_Q_begin_14 rfl ?_
    refine pe_iconst d_Q_begin_15 ?_
    refine pe_iconst d_Q_begin_16 ?_
    refine pe_bipush d_Q_begin_17 ?_
    refine pe_v3v d_Q_begin_19 c_Q_32 i_Q_sendSequence s_Q_sendSequence rfl rfl (y_Q_sendSequence hB (by omega) (by omega) (by omega) (by first | exact hB _ _ | exact hB0 _ _ | exact hBt _ _ | exact ⟨by omega, by omega⟩)) (fun σ19 hz19 => ?_)
    obtain ⟨hB, f19, x19⟩ := hz19
    try have u19_0 : σ19 24 1 = σ11 24 1 := by first | exact o19 1 (by decide) | exact congrFun (f19 24 (by decide)) 1
    try have u19_1 : σ19 24 2 = σ11 24 2 := by first | exact o19 2 (by decide) | exact congrFun (f19 24 (by decide)) 2
    try have u19_2 : σ19 24 3 = σ11 24 3 := by first | exact o19 3 (by decide) | exact congrFun (f19 24 (by decide)) 3
    try have u19_3 : σ19 24 4 = σ11 24 4 := by first | exact o19 4 (by decide) | exact congrFun (f19 24 (by decide)) 4
    try have u19_4 : σ19 25 2 = σ11 25 2 := by first | exact o19 2 (by decide) | exact congrFun (f19 25 (by decide)) 2
    try have u19_5 : σ19 25 3 = σ11 25 3 := by first | exact o19 3 (by decide) | exact congrFun (f19 25 (by decide)) 3
    try have u19_6 : σ19 23 2 = σ11 23 2 := by first | exact o19 2 (by decide) | exact congrFun (f19 23 (by decide)) 2
    try have u19_7 : σ19 18 2 = σ11 18 2 := by first | exact o19 2 (by decide) | exact congrFun (f19 18 (by decide)) 2
    try have u19_8 : σ19 18 3 = σ11 18 3 := by first | exact o19 3 (by decide) | exact congrFun (f19 18 (by decide)) 3
    refine pe_aload_n d_Q_begin_22 rfl ?_
    refine pe_getr f_Q_20 d_Q_begin_23 rfl rfl ?_
    refine pe_v0v d_Q_begin_26 c_Q_36 i_Z_eraseAll s_Z_eraseAll rfl rfl (y_Z_eraseAll hB) (fun σ26 hz26 => ?_)
    obtain ⟨hB, f26, x26⟩ := hz26
    try have u26_0 : σ26 24 1 = σ19 24 1 := by first | exact o26 1 (by decide) | exact congrFun (f26 24 (by decide)) 1
    try have u26_1 : σ26 24 2 = σ19 24 2 := by first | exact o26 2 (by decide) | exact congrFun (f26 24 (by decide)) 2
    try have u26_2 : σ26 24 3 = σ19 24 3 := by first | exact o26 3 (by decide) | exact congrFun (f26 24 (by decide)) 3
    try have u26_3 : σ26 24 4 = σ19 24 4 := by first | exact o26 4 (by decide) | exact congrFun (f26 24 (by decide)) 4
    try have u26_4 : σ26 25 2 = σ19 25 2 := by first | exact o26 2 (by decide) | exact congrFun (f26 25 (by decide)) 2
    try have u26_5 : σ26 25 3 = σ19 25 3 := by first | exact o26 3 (by decide) | exact congrFun (f26 25 (by decide)) 3
    try have u26_6 : σ26 23 2 = σ19 23 2 := by first | exact o26 2 (by decide) | exact congrFun (f26 23 (by decide)) 2
    try have u26_7 : σ26 18 2 = σ19 18 2 := by first | exact o26 2 (by decide) | exact congrFun (f26 18 (by decide)) 2
    try have u26_8 : σ26 18 3 = σ19 18 3 := by first | exact o26 3 (by decide) | exact congrFun (f26 18 (by decide)) 3
    have q1 := x26.2.2 1 (by decide) (by decide)
    have q2 := x26.2.2 2 (by decide) (by decide)
    have q4 := x26.2.2 4 (by decide) (by decide)
    refine pe_rv d_Q_begin_29 ?_
    first | (exfalso; omega) | exact ⟨hB, (fun b hb => (f26 b (by simp at hb ⊢; try omega)).trans ((f19 b (by simp at hb ⊢; try omega)).trans ((f11 b (by simp at hb ⊢; try omega)).trans ((f2 b (by simp at hb ⊢; try omega)).trans (rfl))))), x26.1, by omega⟩
theorem y_Q_sendPlace {σ : pe_H} {r c : Int} (hB : pe_B σ) (hq : 0 ≤ σ 23 2 ∧ σ 23 2 ≤ 2000) (hr : 0 ≤ r ∧ r ≤ 7) (hc : c = 0) : pe_M m_Q_sendPlace [pe_r 23, pe_i r, pe_i c] σ (pe_qv (fun σ' => pe_B σ' ∧ (∀ b, b ∉ [23, 24, 28] → σ' b = σ b) ∧ σ' 23 2 = σ 23 2 + 6 ∧ σ' 24 1 = r ∧ σ' 24 2 = c ∧ σ' 24 3 = 0 ∧ σ' 24 4 = σ 24 4)) := by
  refine pe_in0 (lv := [some (pe_r 23), some (pe_i r), some (pe_i c)]) ?_
  have hB0 := hB
  refine pe_aload_n d_Q_sendPlace_0 rfl ?_
  refine pe_iload_n d_Q_sendPlace_1 rfl ?_
  refine pe_iconst d_Q_sendPlace_2 ?_
  refine pe_iadd d_Q_sendPlace_3 ?_
  refine pe_iload_n d_Q_sendPlace_4 rfl ?_
  refine pe_iconst d_Q_sendPlace_5 ?_
  refine pe_iadd d_Q_sendPlace_6 ?_
  refine pe_bipush d_Q_sendPlace_7 ?_
  refine pe_v3v d_Q_sendPlace_9 c_Q_32 i_Q_sendSequence s_Q_sendSequence rfl rfl (y_Q_sendSequence hB (by omega) (by omega) (by omega) (by first | exact hB _ _ | exact hB0 _ _ | exact hBt _ _ | exact ⟨by omega, by omega⟩)) (fun σ9 hz9 => ?_)
  obtain ⟨hB, f9, x9⟩ := hz9
  try have u9_0 : σ9 24 1 = σ 24 1 := by first | exact o9 1 (by decide) | exact congrFun (f9 24 (by decide)) 1
  try have u9_1 : σ9 24 2 = σ 24 2 := by first | exact o9 2 (by decide) | exact congrFun (f9 24 (by decide)) 2
  try have u9_2 : σ9 24 3 = σ 24 3 := by first | exact o9 3 (by decide) | exact congrFun (f9 24 (by decide)) 3
  try have u9_3 : σ9 24 4 = σ 24 4 := by first | exact o9 4 (by decide) | exact congrFun (f9 24 (by decide)) 4
  try have u9_4 : σ9 25 2 = σ 25 2 := by first | exact o9 2 (by decide) | exact congrFun (f9 25 (by decide)) 2
  try have u9_5 : σ9 25 3 = σ 25 3 := by first | exact o9 3 (by decide) | exact congrFun (f9 25 (by decide)) 3
  try have u9_6 : σ9 23 2 = σ 23 2 := by first | exact o9 2 (by decide) | exact congrFun (f9 23 (by decide)) 2
  try have u9_7 : σ9 18 2 = σ 18 2 := by first | exact o9 2 (by decide) | exact congrFun (f9 18 (by decide)) 2
  try have u9_8 : σ9 18 3 = σ 18 3 := by first | exact o9 3 (by decide) | exact congrFun (f9 18 (by decide)) 3
  refine pe_aload_n d_Q_sendPlace_12 rfl ?_
  refine pe_getr f_Q_20 d_Q_sendPlace_13 rfl rfl ?_
  refine pe_iload_n d_Q_sendPlace_16 rfl ?_
  refine pe_iload_n d_Q_sendPlace_17 rfl ?_
  refine pe_v2v d_Q_sendPlace_18 c_Q_123 i_Z_moveTo s_Z_moveTo rfl rfl (y_Z_moveTo hB (by omega) (by omega)) (fun σ18 hz18 => ?_)
  obtain ⟨hB, f18, x18⟩ := hz18
  try have u18_0 : σ18 24 1 = σ9 24 1 := by first | exact o18 1 (by decide) | exact congrFun (f18 24 (by decide)) 1
  try have u18_1 : σ18 24 2 = σ9 24 2 := by first | exact o18 2 (by decide) | exact congrFun (f18 24 (by decide)) 2
  try have u18_2 : σ18 24 3 = σ9 24 3 := by first | exact o18 3 (by decide) | exact congrFun (f18 24 (by decide)) 3
  try have u18_3 : σ18 24 4 = σ9 24 4 := by first | exact o18 4 (by decide) | exact congrFun (f18 24 (by decide)) 4
  try have u18_4 : σ18 25 2 = σ9 25 2 := by first | exact o18 2 (by decide) | exact congrFun (f18 25 (by decide)) 2
  try have u18_5 : σ18 25 3 = σ9 25 3 := by first | exact o18 3 (by decide) | exact congrFun (f18 25 (by decide)) 3
  try have u18_6 : σ18 23 2 = σ9 23 2 := by first | exact o18 2 (by decide) | exact congrFun (f18 23 (by decide)) 2
  try have u18_7 : σ18 18 2 = σ9 18 2 := by first | exact o18 2 (by decide) | exact congrFun (f18 18 (by decide)) 2
  try have u18_8 : σ18 18 3 = σ9 18 3 := by first | exact o18 3 (by decide) | exact congrFun (f18 18 (by decide)) 3
  refine pe_rv d_Q_sendPlace_21 ?_
  exact ⟨hB, (fun b hb => (f18 b (by simp at hb ⊢; try omega)).trans ((f9 b (by simp at hb ⊢; try omega)).trans (rfl))), by omega⟩
theorem y_Q_mpr {σ : pe_H} {r c : Int} (hB : pe_B σ) (hq : 0 ≤ σ 23 2 ∧ σ 23 2 ≤ 2000) (hr : 0 ≤ r ∧ r ≤ 7) (hc : 0 ≤ c ∧ c ≤ 24) (ha : (σ 24 1 = r ∧ σ 24 2 = c ∧ σ 24 3 = 0) ∨ (σ 24 1 ≠ r ∧ c = 0 ∧ 0 ≤ σ 24 1 ∧ σ 24 1 ≤ 7)) : pe_M m_Q_makePlaceRight [pe_r 23, pe_i r, pe_i c] σ (pe_qv (fun σ' => pe_B σ' ∧ (∀ b, b ∉ [23, 24, 28] → σ' b = σ b) ∧ (σ' 24 1 = r ∧ σ' 24 2 = c ∧ σ' 24 3 = 0 ∧ σ' 24 4 = σ 24 4) ∧ ∃ d, σ' 23 2 = σ 23 2 + d ∧ ((σ 24 1 = r ∧ d = 0) ∨ (σ 24 1 ≠ r ∧ r = σ 24 1 + 1 ∧ d = 2) ∨ (σ 24 1 ≠ r ∧ r ≠ σ 24 1 + 1 ∧ d = 6)))) := by
  refine pe_in0 (lv := [some (pe_r 23), some (pe_i r), some (pe_i c), none, none]) ?_
  have hB0 := hB
  have J136 : ∀ s : Int, (s = 0 ∧ σ 24 1 ≠ r) → pe_G m_Q_makePlaceRight 136 [some (pe_r 23), some (pe_i r), some (pe_i c), some (pe_i s), none] [] σ (pe_qv (fun σ' => pe_B σ' ∧ (∀ b, b ∉ [23, 24, 28] → σ' b = σ b) ∧ (σ' 24 1 = r ∧ σ' 24 2 = c ∧ σ' 24 3 = 0 ∧ σ' 24 4 = σ 24 4) ∧ ∃ d, σ' 23 2 = σ 23 2 + d ∧ ((σ 24 1 = r ∧ d = 0) ∨ (σ 24 1 ≠ r ∧ r = σ 24 1 + 1 ∧ d = 2) ∨ (σ 24 1 ≠ r ∧ r ≠ σ 24 1 + 1 ∧ d = 6)))) := by
    intro s hI
    refine pe_iload_n d_Q_makePlaceRight_136 rfl ?_
    refine pe_if_ne (t := 177) d_Q_makePlaceRight_137 (by first | exact hB _ _ | exact hB0 _ _ | exact hBt _ _ | exact ⟨by omega, by omega⟩) (fun h137 => ?_) (fun h137 => ?_)
    · skip
      refine pe_aload_n d_Q_makePlaceRight_177 rfl ?_
      refine pe_iload_n d_Q_makePlaceRight_178 rfl ?_
      refine pe_iload_n d_Q_makePlaceRight_179 rfl ?_
      refine pe_v2v d_Q_makePlaceRight_180 c_Q_98 i_Q_sendPlace s_Q_sendPlace rfl rfl (y_Q_sendPlace hB (by omega) (by omega) (by omega)) (fun σ180 hz180 => ?_)
      obtain ⟨hB, f180, x180⟩ := hz180
      try have u180_0 : σ180 24 1 = σ 24 1 := by first | exact o180 1 (by decide) | exact congrFun (f180 24 (by decide)) 1
      try have u180_1 : σ180 24 2 = σ 24 2 := by first | exact o180 2 (by decide) | exact congrFun (f180 24 (by decide)) 2
      try have u180_2 : σ180 24 3 = σ 24 3 := by first | exact o180 3 (by decide) | exact congrFun (f180 24 (by decide)) 3
      try have u180_3 : σ180 24 4 = σ 24 4 := by first | exact o180 4 (by decide) | exact congrFun (f180 24 (by decide)) 4
      try have u180_4 : σ180 25 2 = σ 25 2 := by first | exact o180 2 (by decide) | exact congrFun (f180 25 (by decide)) 2
      try have u180_5 : σ180 25 3 = σ 25 3 := by first | exact o180 3 (by decide) | exact congrFun (f180 25 (by decide)) 3
      try have u180_6 : σ180 23 2 = σ 23 2 := by first | exact o180 2 (by decide) | exact congrFun (f180 23 (by decide)) 2
      try have u180_7 : σ180 18 2 = σ 18 2 := by first | exact o180 2 (by decide) | exact congrFun (f180 18 (by decide)) 2
      try have u180_8 : σ180 18 3 = σ 18 3 := by first | exact o180 3 (by decide) | exact congrFun (f180 18 (by decide)) 3
      refine pe_rv d_Q_makePlaceRight_183 ?_
      first | (exfalso; omega) | exact ⟨hB, (fun b hb => (f180 b (by simp at hb ⊢; try omega)).trans (rfl)), by omega, 2, by omega, by omega⟩ | exact ⟨hB, (fun b hb => (f180 b (by simp at hb ⊢; try omega)).trans (rfl)), by omega, 6, by omega, by omega⟩
    · skip
      refine pe_iload_n d_Q_makePlaceRight_140 rfl ?_
      refine pe_aload_n d_Q_makePlaceRight_141 rfl ?_
      refine pe_getr f_Q_20 d_Q_makePlaceRight_142 rfl rfl ?_
      refine pe_geti f_Q_113 d_Q_makePlaceRight_145 rfl rfl 1 rfl ?_
      refine pe_iconst d_Q_makePlaceRight_148 ?_
      refine pe_iadd d_Q_makePlaceRight_149 ?_
      refine pe_icmp_ne (t := 177) d_Q_makePlaceRight_150 (by first | exact hB _ _ | exact hB0 _ _ | exact hBt _ _ | exact ⟨by omega, by omega⟩) (by first | exact hB _ _ | exact hB0 _ _ | exact hBt _ _ | exact ⟨by omega, by omega⟩) (fun h150 => ?_) (fun h150 => ?_)
      · skip
        refine pe_aload_n d_Q_makePlaceRight_177 rfl ?_
        refine pe_iload_n d_Q_makePlaceRight_178 rfl ?_
        refine pe_iload_n d_Q_makePlaceRight_179 rfl ?_
        refine pe_v2v d_Q_makePlaceRight_180 c_Q_98 i_Q_sendPlace s_Q_sendPlace rfl rfl (y_Q_sendPlace hB (by omega) (by omega) (by omega)) (fun σ180 hz180 => ?_)
        obtain ⟨hB, f180, x180⟩ := hz180
        try have u180_0 : σ180 24 1 = σ 24 1 := by first | exact o180 1 (by decide) | exact congrFun (f180 24 (by decide)) 1
        try have u180_1 : σ180 24 2 = σ 24 2 := by first | exact o180 2 (by decide) | exact congrFun (f180 24 (by decide)) 2
        try have u180_2 : σ180 24 3 = σ 24 3 := by first | exact o180 3 (by decide) | exact congrFun (f180 24 (by decide)) 3
        try have u180_3 : σ180 24 4 = σ 24 4 := by first | exact o180 4 (by decide) | exact congrFun (f180 24 (by decide)) 4
        try have u180_4 : σ180 25 2 = σ 25 2 := by first | exact o180 2 (by decide) | exact congrFun (f180 25 (by decide)) 2
        try have u180_5 : σ180 25 3 = σ 25 3 := by first | exact o180 3 (by decide) | exact congrFun (f180 25 (by decide)) 3
        try have u180_6 : σ180 23 2 = σ 23 2 := by first | exact o180 2 (by decide) | exact congrFun (f180 23 (by decide)) 2
        try have u180_7 : σ180 18 2 = σ 18 2 := by first | exact o180 2 (by decide) | exact congrFun (f180 18 (by decide)) 2
        try have u180_8 : σ180 18 3 = σ 18 3 := by first | exact o180 3 (by decide) | exact congrFun (f180 18 (by decide)) 3
        refine pe_rv d_Q_makePlaceRight_183 ?_
        first | (exfalso; omega) | exact ⟨hB, (fun b hb => (f180 b (by simp at hb ⊢; try omega)).trans (rfl)), by omega, 2, by omega, by omega⟩ | exact ⟨hB, (fun b hb => (f180 b (by simp at hb ⊢; try omega)).trans (rfl)), by omega, 6, by omega, by omega⟩
      · skip
        refine pe_aload_n d_Q_makePlaceRight_153 rfl ?_
        refine pe_bipush d_Q_makePlaceRight_154 ?_
        refine pe_any (fun v156 hv156 => ?_)
        refine pe_v1v d_Q_makePlaceRight_156 c_Q_126 i_Q_put s_Q_put rfl rfl (y_Q_put hB (by omega) (by first | exact hB _ _ | exact hB0 _ _ | exact hBt _ _ | exact ⟨by omega, by omega⟩)) (fun σ156 hz156 => ?_)
        obtain ⟨hB, f156, x156⟩ := hz156
        try have u156_0 : σ156 24 1 = σ 24 1 := by first | exact o156 1 (by decide) | exact congrFun (f156 24 (by decide)) 1
        try have u156_1 : σ156 24 2 = σ 24 2 := by first | exact o156 2 (by decide) | exact congrFun (f156 24 (by decide)) 2
        try have u156_2 : σ156 24 3 = σ 24 3 := by first | exact o156 3 (by decide) | exact congrFun (f156 24 (by decide)) 3
        try have u156_3 : σ156 24 4 = σ 24 4 := by first | exact o156 4 (by decide) | exact congrFun (f156 24 (by decide)) 4
        try have u156_4 : σ156 25 2 = σ 25 2 := by first | exact o156 2 (by decide) | exact congrFun (f156 25 (by decide)) 2
        try have u156_5 : σ156 25 3 = σ 25 3 := by first | exact o156 3 (by decide) | exact congrFun (f156 25 (by decide)) 3
        try have u156_6 : σ156 23 2 = σ 23 2 := by first | exact o156 2 (by decide) | exact congrFun (f156 23 (by decide)) 2
        try have u156_7 : σ156 18 2 = σ 18 2 := by first | exact o156 2 (by decide) | exact congrFun (f156 18 (by decide)) 2
        try have u156_8 : σ156 18 3 = σ 18 3 := by first | exact o156 3 (by decide) | exact congrFun (f156 18 (by decide)) 3
        refine pe_aload_n d_Q_makePlaceRight_159 rfl ?_
        refine pe_bipush d_Q_makePlaceRight_160 ?_
        refine pe_any (fun v162 hv162 => ?_)
        refine pe_v1v d_Q_makePlaceRight_162 c_Q_126 i_Q_put s_Q_put rfl rfl (y_Q_put hB (by omega) (by first | exact hB _ _ | exact hB0 _ _ | exact hBt _ _ | exact ⟨by omega, by omega⟩)) (fun σ162 hz162 => ?_)
        obtain ⟨hB, f162, x162⟩ := hz162
        try have u162_0 : σ162 24 1 = σ156 24 1 := by first | exact o162 1 (by decide) | exact congrFun (f162 24 (by decide)) 1
        try have u162_1 : σ162 24 2 = σ156 24 2 := by first | exact o162 2 (by decide) | exact congrFun (f162 24 (by decide)) 2
        try have u162_2 : σ162 24 3 = σ156 24 3 := by first | exact o162 3 (by decide) | exact congrFun (f162 24 (by decide)) 3
        try have u162_3 : σ162 24 4 = σ156 24 4 := by first | exact o162 4 (by decide) | exact congrFun (f162 24 (by decide)) 4
        try have u162_4 : σ162 25 2 = σ156 25 2 := by first | exact o162 2 (by decide) | exact congrFun (f162 25 (by decide)) 2
        try have u162_5 : σ162 25 3 = σ156 25 3 := by first | exact o162 3 (by decide) | exact congrFun (f162 25 (by decide)) 3
        try have u162_6 : σ162 23 2 = σ156 23 2 := by first | exact o162 2 (by decide) | exact congrFun (f162 23 (by decide)) 2
        try have u162_7 : σ162 18 2 = σ156 18 2 := by first | exact o162 2 (by decide) | exact congrFun (f162 18 (by decide)) 2
        try have u162_8 : σ162 18 3 = σ156 18 3 := by first | exact o162 3 (by decide) | exact congrFun (f162 18 (by decide)) 3
        refine pe_aload_n d_Q_makePlaceRight_165 rfl ?_
        refine pe_getr f_Q_20 d_Q_makePlaceRight_166 rfl rfl ?_
        refine pe_iload_n d_Q_makePlaceRight_169 rfl ?_
        refine pe_iconst d_Q_makePlaceRight_170 ?_
        refine pe_v2v d_Q_makePlaceRight_171 c_Q_123 i_Z_moveTo s_Z_moveTo rfl rfl (y_Z_moveTo hB (by omega) (by omega)) (fun σ171 hz171 => ?_)
        obtain ⟨hB, f171, x171⟩ := hz171
        try have u171_0 : σ171 24 1 = σ162 24 1 := by first | exact o171 1 (by decide) | exact congrFun (f171 24 (by decide)) 1
        try have u171_1 : σ171 24 2 = σ162 24 2 := by first | exact o171 2 (by decide) | exact congrFun (f171 24 (by decide)) 2
        try have u171_2 : σ171 24 3 = σ162 24 3 := by first | exact o171 3 (by decide) | exact congrFun (f171 24 (by decide)) 3
        try have u171_3 : σ171 24 4 = σ162 24 4 := by first | exact o171 4 (by decide) | exact congrFun (f171 24 (by decide)) 4
        try have u171_4 : σ171 25 2 = σ162 25 2 := by first | exact o171 2 (by decide) | exact congrFun (f171 25 (by decide)) 2
        try have u171_5 : σ171 25 3 = σ162 25 3 := by first | exact o171 3 (by decide) | exact congrFun (f171 25 (by decide)) 3
        try have u171_6 : σ171 23 2 = σ162 23 2 := by first | exact o171 2 (by decide) | exact congrFun (f171 23 (by decide)) 2
        try have u171_7 : σ171 18 2 = σ162 18 2 := by first | exact o171 2 (by decide) | exact congrFun (f171 18 (by decide)) 2
        try have u171_8 : σ171 18 3 = σ162 18 3 := by first | exact o171 3 (by decide) | exact congrFun (f171 18 (by decide)) 3
        refine pe_goto (t := 183) d_Q_makePlaceRight_174 ?_
        refine pe_rv d_Q_makePlaceRight_183 ?_
        first | (exfalso; omega) | exact ⟨hB, (fun b hb => (f171 b (by simp at hb ⊢; try omega)).trans ((f162 b (by simp at hb ⊢; try omega)).trans ((f156 b (by simp at hb ⊢; try omega)).trans (rfl)))), by omega, 2, by omega, by omega⟩ | exact ⟨hB, (fun b hb => (f171 b (by simp at hb ⊢; try omega)).trans ((f162 b (by simp at hb ⊢; try omega)).trans ((f156 b (by simp at hb ⊢; try omega)).trans (rfl)))), by omega, 6, by omega, by omega⟩
  have J43 : ∀ s : Int, (s = 0 ∧ σ 24 1 ≠ r) → pe_G m_Q_makePlaceRight 43 [some (pe_r 23), some (pe_i r), some (pe_i c), some (pe_i s), none] [] σ (pe_qv (fun σ' => pe_B σ' ∧ (∀ b, b ∉ [23, 24, 28] → σ' b = σ b) ∧ (σ' 24 1 = r ∧ σ' 24 2 = c ∧ σ' 24 3 = 0 ∧ σ' 24 4 = σ 24 4) ∧ ∃ d, σ' 23 2 = σ 23 2 + d ∧ ((σ 24 1 = r ∧ d = 0) ∨ (σ 24 1 ≠ r ∧ r = σ 24 1 + 1 ∧ d = 2) ∨ (σ 24 1 ≠ r ∧ r ≠ σ 24 1 + 1 ∧ d = 6)))) := by
    intro s hI
    refine pe_iload_n d_Q_makePlaceRight_43 rfl ?_
    refine pe_if_eq (t := 110) d_Q_makePlaceRight_44 (by first | exact hB _ _ | exact hB0 _ _ | exact hBt _ _ | exact ⟨by omega, by omega⟩) (fun h44 => ?_) (fun h44 => ?_)
    · skip
      refine pe_iload_n d_Q_makePlaceRight_110 rfl ?_
      refine pe_if_ne (t := 136) d_Q_makePlaceRight_111 (by first | exact hB _ _ | exact hB0 _ _ | exact hBt _ _ | exact ⟨by omega, by omega⟩) (fun h111 => ?_) (fun h111 => ?_)
      · skip
        first | (exfalso; omega) | exact J136 _ (by omega)
      · skip
        refine pe_iload_n d_Q_makePlaceRight_114 rfl ?_
        refine pe_if_eq (t := 136) d_Q_makePlaceRight_115 (by first | exact hB _ _ | exact hB0 _ _ | exact hBt _ _ | exact ⟨by omega, by omega⟩) (fun h115 => ?_) (fun h115 => ?_)
        · skip
          first | (exfalso; omega) | exact J136 _ (by omega)
        · skip
          exfalso; omega
    · skip
      exfalso; omega
  have J17 : ∀ s : Int, ((s = 0 ∨ s = 1) ∧ (s = 1 ↔ σ 24 1 = r)) → pe_G m_Q_makePlaceRight 17 [some (pe_r 23), some (pe_i r), some (pe_i c), some (pe_i s), none] [] σ (pe_qv (fun σ' => pe_B σ' ∧ (∀ b, b ∉ [23, 24, 28] → σ' b = σ b) ∧ (σ' 24 1 = r ∧ σ' 24 2 = c ∧ σ' 24 3 = 0 ∧ σ' 24 4 = σ 24 4) ∧ ∃ d, σ' 23 2 = σ 23 2 + d ∧ ((σ 24 1 = r ∧ d = 0) ∨ (σ 24 1 ≠ r ∧ r = σ 24 1 + 1 ∧ d = 2) ∨ (σ 24 1 ≠ r ∧ r ≠ σ 24 1 + 1 ∧ d = 6)))) := by
    intro s hI
    refine pe_iload_n d_Q_makePlaceRight_17 rfl ?_
    refine pe_if_eq (t := 43) d_Q_makePlaceRight_18 (by first | exact hB _ _ | exact hB0 _ _ | exact hBt _ _ | exact ⟨by omega, by omega⟩) (fun h18 => ?_) (fun h18 => ?_)
    · skip
      first | (exfalso; omega) | exact J43 _ (by omega)
    · skip
      refine pe_aload_n d_Q_makePlaceRight_21 rfl ?_
      refine pe_getr f_Q_20 d_Q_makePlaceRight_22 rfl rfl ?_
      refine pe_geti f_Q_116 d_Q_makePlaceRight_25 rfl rfl 2 rfl ?_
      refine pe_iload_n d_Q_makePlaceRight_28 rfl ?_
      refine pe_icmp_ne (t := 43) d_Q_makePlaceRight_29 (by first | exact hB _ _ | exact hB0 _ _ | exact hBt _ _ | exact ⟨by omega, by omega⟩) (by first | exact hB _ _ | exact hB0 _ _ | exact hBt _ _ | exact ⟨by omega, by omega⟩) (fun h29 => ?_) (fun h29 => ?_)
      · skip
        first | (exfalso; omega) | exact J43 _ (by omega)
      · skip
        refine pe_aload_n d_Q_makePlaceRight_32 rfl ?_
        refine pe_getr f_Q_20 d_Q_makePlaceRight_33 rfl rfl ?_
        refine pe_geti f_Q_119 d_Q_makePlaceRight_36 rfl rfl 3 rfl ?_
        refine pe_if_ne (t := 43) d_Q_makePlaceRight_39 (by first | exact hB _ _ | exact hB0 _ _ | exact hBt _ _ | exact ⟨by omega, by omega⟩) (fun h39 => ?_) (fun h39 => ?_)
        · skip
          first | (exfalso; omega) | exact J43 _ (by omega)
        · skip
          refine pe_rv d_Q_makePlaceRight_42 ?_
          exact ⟨hB, (fun b hb => rfl), by omega, 0, by omega, by omega⟩
  refine pe_aload_n d_Q_makePlaceRight_0 rfl ?_
  refine pe_getr f_Q_20 d_Q_makePlaceRight_1 rfl rfl ?_
  refine pe_geti f_Q_113 d_Q_makePlaceRight_4 rfl rfl 1 rfl ?_
  refine pe_iload_n d_Q_makePlaceRight_7 rfl ?_
  refine pe_icmp_ne (t := 15) d_Q_makePlaceRight_8 (by first | exact hB _ _ | exact hB0 _ _ | exact hBt _ _ | exact ⟨by omega, by omega⟩) (by first | exact hB _ _ | exact hB0 _ _ | exact hBt _ _ | exact ⟨by omega, by omega⟩) (fun h8 => ?_) (fun h8 => ?_)
  · skip
    refine pe_iconst d_Q_makePlaceRight_15 ?_
    refine pe_istore_n d_Q_makePlaceRight_16 ?_
    exact J17 _ (by omega)
  · skip
    refine pe_iconst d_Q_makePlaceRight_11 ?_
    refine pe_goto (t := 16) d_Q_makePlaceRight_12 ?_
    refine pe_istore_n d_Q_makePlaceRight_16 ?_
    exact J17 _ (by omega)
