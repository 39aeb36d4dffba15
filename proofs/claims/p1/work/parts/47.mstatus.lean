theorem pe_DW_up {m d d' : Int → Int} {r c v : Int} (q : pe_DW m d) (hc : 0 ≤ c ∧ c < m 21) (e : d' (m 21 * r + c) = v) (o : ∀ j, j ≠ m 21 * r + c → d' j = d j) (h0 : 0 ≤ v) (h1 : c = 0 → v % 65536 ≠ 0) (h2 : pe_wi (v % 65536) → c + 1 < m 21) : pe_DW m d' := by
  refine ⟨fun j a b => ?_, fun r9 a b => ?_, fun r9 c9 a b a2 b2 z => ?_⟩
  · by_cases ej : j = m 21 * r + c
    · rw [ej, e]; exact h0
    · rw [o j ej]; exact q.1 j a b
  · by_cases ej : m 21 * r9 = m 21 * r + c
    · rw [ej, e]
      exact h1 (pe_col (W := m 21) (r := r) (c := c) (r' := r9) (c' := 0) hc (by omega) (by rw [Int.add_zero]; exact ej.symm))
    · rw [o _ ej]; exact q.2.1 r9 a b
  · by_cases ej : m 21 * r9 + c9 = m 21 * r + c
    · have ec := pe_col (W := m 21) (r := r9) (c := c9) (r' := r) (c' := c) (by omega) hc ej
      rw [ej, e] at z
      rw [ec]
      exact h2 z
    · rw [o _ ej] at z
      exact q.2.2 r9 c9 a b a2 b2 z
theorem t_M_clusterAt {σ : pe_H} {p : Int} (hB : pe_B σ) (hM : pe_MEs σ) (hp : 0 ≤ p ∧ p < σ 29 1) : pe_M m_M_clusterAt [pe_r 29, pe_i p] σ (pe_qp σ (fun z => (0 ≤ z ∧ z < 2147483648) ∧ z % 65536 = σ 30 p)) := by
  refine pe_in0 (lv := [some (pe_r 29), some (pe_i p), none, none]) ?_
  have hB0 := hB
  have hM0 := hM
  obtain ⟨hl, A30, A31, A36, ⟨hcu, hbg⟩, hma, hcl, hcg, hch, N30, N31, N36⟩ := hM
  have at0 := A30 p
  refine pe_aload_n d_M_clusterAt_0 rfl ?_
  refine pe_getr f_M_7 d_M_clusterAt_1 rfl rfl ?_
  refine pe_iload_n d_M_clusterAt_4 rfl ?_
  refine pe_iald d_M_clusterAt_5 rfl (by omega) (by omega) ?_
  refine pe_istore_n d_M_clusterAt_6 ?_
  refine pe_aload_n d_M_clusterAt_7 rfl ?_
  refine pe_iload_n d_M_clusterAt_8 rfl ?_
  refine pe_v1p d_M_clusterAt_9 c_M_107 i_M_after s_M_after rfl rfl (t_M_after hB (by omega) (by omega)) (fun z9 hz9 => ?_)
  refine pe_istore_n d_M_clusterAt_12 ?_
  refine pe_iload_n d_M_clusterAt_13 rfl ?_
  refine pe_iload_n d_M_clusterAt_14 rfl ?_
  refine pe_isub d_M_clusterAt_15 ?_
  refine pe_iconst d_M_clusterAt_16 ?_
  refine pe_icmp_le (t := 38) d_M_clusterAt_17 (by first | exact hB _ _ | exact hB0 _ _ | exact hBt _ _ | exact ⟨by omega, by omega⟩) (by first | exact hB _ _ | exact hB0 _ _ | exact hBt _ _ | exact ⟨by omega, by omega⟩) (fun h17 => ?_) (fun h17 => ?_)
  · skip
    refine pe_iload_n d_M_clusterAt_38 rfl ?_
    refine pe_iload_n d_M_clusterAt_39 rfl ?_
    refine pe_isub d_M_clusterAt_40 ?_
    refine pe_iconst d_M_clusterAt_41 ?_
    refine pe_icmp_le (t := 63) d_M_clusterAt_42 (by first | exact hB _ _ | exact hB0 _ _ | exact hBt _ _ | exact ⟨by omega, by omega⟩) (by first | exact hB _ _ | exact hB0 _ _ | exact hBt _ _ | exact ⟨by omega, by omega⟩) (fun h42 => ?_) (fun h42 => ?_)
    · skip
      refine pe_iload_n d_M_clusterAt_63 rfl ?_
      refine pe_ri d_M_clusterAt_64 ?_
      exact ⟨rfl, by (try dsimp only); omega⟩
    · skip
      have mb2 := hz9.2.2 (p + 2) (by omega) (by omega)
      have m2 : 768 ≤ σ 30 (p + 2) ∧ σ 30 (p + 2) ≤ 879 := by unfold pe_bg at mb2; omega
      have mb := hz9.2.2 (p + 1) (by omega) (by omega)
      have m1 : 768 ≤ σ 30 (p + 1) ∧ σ 30 (p + 1) ≤ 879 := by unfold pe_bg at mb; omega
      refine pe_iload_n d_M_clusterAt_45 rfl ?_
      refine pe_ldc q_M_221 d_M_clusterAt_46 (z := 8388608) rfl ?_
      refine pe_aload_n d_M_clusterAt_48 rfl ?_
      refine pe_getr f_M_7 d_M_clusterAt_49 rfl rfl ?_
      refine pe_iload_n d_M_clusterAt_52 rfl ?_
      refine pe_iconst d_M_clusterAt_53 ?_
      refine pe_iadd d_M_clusterAt_54 ?_
      refine pe_iald d_M_clusterAt_55 rfl (by omega) (by omega) ?_
      refine pe_sipush d_M_clusterAt_56 ?_
      refine pe_isub d_M_clusterAt_59 ?_
      refine pe_imul d_M_clusterAt_60 ?_
      refine pe_iadd d_M_clusterAt_61 ?_
      refine pe_istore_n d_M_clusterAt_62 ?_
      refine pe_iload_n d_M_clusterAt_63 rfl ?_
      refine pe_ri d_M_clusterAt_64 ?_
      exact ⟨rfl, by (try dsimp only); omega⟩
  · skip
    have mb := hz9.2.2 (p + 1) (by omega) (by omega)
    have m1 : 768 ≤ σ 30 (p + 1) ∧ σ 30 (p + 1) ≤ 879 := by unfold pe_bg at mb; omega
    refine pe_iload_n d_M_clusterAt_20 rfl ?_
    refine pe_ldc q_M_220 d_M_clusterAt_21 (z := 65536) rfl ?_
    refine pe_aload_n d_M_clusterAt_23 rfl ?_
    refine pe_getr f_M_7 d_M_clusterAt_24 rfl rfl ?_
    refine pe_iload_n d_M_clusterAt_27 rfl ?_
    refine pe_iconst d_M_clusterAt_28 ?_
    refine pe_iadd d_M_clusterAt_29 ?_
    refine pe_iald d_M_clusterAt_30 rfl (by omega) (by omega) ?_
    refine pe_sipush d_M_clusterAt_31 ?_
    refine pe_isub d_M_clusterAt_34 ?_
    refine pe_imul d_M_clusterAt_35 ?_
    refine pe_iadd d_M_clusterAt_36 ?_
    refine pe_istore_n d_M_clusterAt_37 ?_
    refine pe_iload_n d_M_clusterAt_38 rfl ?_
    refine pe_iload_n d_M_clusterAt_39 rfl ?_
    refine pe_isub d_M_clusterAt_40 ?_
    refine pe_iconst d_M_clusterAt_41 ?_
    refine pe_icmp_le (t := 63) d_M_clusterAt_42 (by first | exact hB _ _ | exact hB0 _ _ | exact hBt _ _ | exact ⟨by omega, by omega⟩) (by first | exact hB _ _ | exact hB0 _ _ | exact hBt _ _ | exact ⟨by omega, by omega⟩) (fun h42 => ?_) (fun h42 => ?_)
    · skip
      refine pe_iload_n d_M_clusterAt_63 rfl ?_
      refine pe_ri d_M_clusterAt_64 ?_
      exact ⟨rfl, by (try dsimp only); omega⟩
    · skip
      have mb2 := hz9.2.2 (p + 2) (by omega) (by omega)
      have m2 : 768 ≤ σ 30 (p + 2) ∧ σ 30 (p + 2) ≤ 879 := by unfold pe_bg at mb2; omega
      have mb := hz9.2.2 (p + 1) (by omega) (by omega)
      have m1 : 768 ≤ σ 30 (p + 1) ∧ σ 30 (p + 1) ≤ 879 := by unfold pe_bg at mb; omega
      refine pe_iload_n d_M_clusterAt_45 rfl ?_
      refine pe_ldc q_M_221 d_M_clusterAt_46 (z := 8388608) rfl ?_
      refine pe_aload_n d_M_clusterAt_48 rfl ?_
      refine pe_getr f_M_7 d_M_clusterAt_49 rfl rfl ?_
      refine pe_iload_n d_M_clusterAt_52 rfl ?_
      refine pe_iconst d_M_clusterAt_53 ?_
      refine pe_iadd d_M_clusterAt_54 ?_
      refine pe_iald d_M_clusterAt_55 rfl (by omega) (by omega) ?_
      refine pe_sipush d_M_clusterAt_56 ?_
      refine pe_isub d_M_clusterAt_59 ?_
      refine pe_imul d_M_clusterAt_60 ?_
      refine pe_iadd d_M_clusterAt_61 ?_
      refine pe_istore_n d_M_clusterAt_62 ?_
      refine pe_iload_n d_M_clusterAt_63 rfl ?_
      refine pe_ri d_M_clusterAt_64 ?_
      exact ⟨rfl, by (try dsimp only); omega⟩
theorem t_M_status {σ : pe_H} {c k : Int} (hB : pe_B σ) (hW : 4 ≤ σ 29 21 ∧ σ 29 21 ≤ 24 ∧ 2 ≤ σ 29 22 ∧ σ 29 22 ≤ 8) (hD : pe_DW (σ 29) (σ 40)) (hc : 0 ≤ c ∧ c ≤ 100) (hk : 1 ≤ k ∧ k ≤ 1000) : pe_M m_M_status [pe_r 29, pe_i c, pe_i k] σ (pe_qi (fun z σ' => pe_B σ' ∧ (∀ b, b ∉ [40] → σ' b = σ b) ∧ pe_DW (σ' 29) (σ' 40) ∧ z = c + 1)) := by
  refine pe_in0 (lv := [some (pe_r 29), some (pe_i c), some (pe_i k)]) ?_
  have hB0 := hB
  have ix := pe_ix (W := σ 29 21) (H := σ 29 22) (r := σ 29 22 - 1) (c := 0) (by omega) (by omega) (by omega) (by omega)
  refine pe_iload_n d_M_status_0 rfl ?_
  refine pe_aload_n d_M_status_1 rfl ?_
  refine pe_geti f_M_78 d_M_status_2 rfl rfl 21 rfl ?_
  refine pe_icmp_ge (t := 27) d_M_status_5 (by first | exact hB _ _ | exact hB0 _ _ | exact hBt _ _ | exact ⟨by omega, by omega⟩) (by first | exact hB _ _ | exact hB0 _ _ | exact hBt _ _ | exact ⟨by omega, by omega⟩) (fun h5 => ?_) (fun h5 => ?_)
  · skip
    skip
    refine pe_iload_n d_M_status_27 rfl ?_
    refine pe_iconst d_M_status_28 ?_
    refine pe_iadd d_M_status_29 ?_
    refine pe_ri d_M_status_30 ?_
    first | exact ⟨hB, (fun b hb => rfl), hD, rfl⟩ | exact ⟨hB, (fun b hb => rfl), pe_DW_to (pe_DW_up (r := σ 29 22 - 1) (c := c) hD (by omega) e26 o26 (by omega) (by omega) (fun z => absurd z (pe_nw (by omega)))) (congrFun (rfl) 21) (congrFun (rfl) 22) rfl, rfl⟩
  · skip
    refine pe_aload_n d_M_status_8 rfl ?_
    refine pe_getr f_M_50 d_M_status_9 rfl rfl ?_
    refine pe_aload_n d_M_status_12 rfl ?_
    refine pe_geti f_M_78 d_M_status_13 rfl rfl 21 rfl ?_
    refine pe_aload_n d_M_status_16 rfl ?_
    refine pe_geti f_M_81 d_M_status_17 rfl rfl 22 rfl ?_
    refine pe_iconst d_M_status_20 ?_
    refine pe_isub d_M_status_21 ?_
    refine pe_imul d_M_status_22 ?_
    refine pe_iload_n d_M_status_23 rfl ?_
    refine pe_iadd d_M_status_24 ?_
    refine pe_iload_n d_M_status_25 rfl ?_
    refine pe_iastT d_M_status_26 rfl (by omega) (by omega) hB (by first | exact hB _ _ | exact hB0 _ _ | exact hBt _ _ | exact ⟨by omega, by omega⟩) (fun σ26 hB e26 o26 f26 => ?_)
    try have u26_0 : σ26 29 1 = σ 29 1 := by first | exact o26 1 (by decide) | exact congrFun (f26 29 (by decide)) 1
    try have u26_1 : σ26 29 2 = σ 29 2 := by first | exact o26 2 (by decide) | exact congrFun (f26 29 (by decide)) 2
    try have u26_2 : σ26 29 3 = σ 29 3 := by first | exact o26 3 (by decide) | exact congrFun (f26 29 (by decide)) 3
    try have u26_3 : σ26 29 7 = σ 29 7 := by first | exact o26 7 (by decide) | exact congrFun (f26 29 (by decide)) 7
    try have u26_4 : σ26 29 21 = σ 29 21 := by first | exact o26 21 (by decide) | exact congrFun (f26 29 (by decide)) 21
    try have u26_5 : σ26 29 22 = σ 29 22 := by first | exact o26 22 (by decide) | exact congrFun (f26 29 (by decide)) 22
    try have u26_6 : σ26 29 27 = σ 29 27 := by first | exact o26 27 (by decide) | exact congrFun (f26 29 (by decide)) 27
    skip
    refine pe_iload_n d_M_status_27 rfl ?_
    refine pe_iconst d_M_status_28 ?_
    refine pe_iadd d_M_status_29 ?_
    refine pe_ri d_M_status_30 ?_
    first | exact ⟨hB, (fun b hb => (f26 b (by simp at hb ⊢; try omega)).trans (rfl)), hD, rfl⟩ | exact ⟨hB, (fun b hb => (f26 b (by simp at hb ⊢; try omega)).trans (rfl)), pe_DW_to (pe_DW_up (r := σ 29 22 - 1) (c := c) hD (by omega) e26 o26 (by omega) (by omega) (fun z => absurd z (pe_nw (by omega)))) (congrFun ((f26 29 (by decide)).trans (rfl)) 21) (congrFun ((f26 29 (by decide)).trans (rfl)) 22) rfl, rfl⟩
theorem t_M_statusNumber {σ : pe_H} {c v : Int} (hB : pe_B σ) (hW : 4 ≤ σ 29 21 ∧ σ 29 21 ≤ 24 ∧ 2 ≤ σ 29 22 ∧ σ 29 22 ≤ 8) (hD : pe_DW (σ 29) (σ 40)) (hc : 0 ≤ c ∧ c ≤ 50) (hv : 1 ≤ v ∧ v ≤ 1000) : pe_M m_M_statusNumber [pe_r 29, pe_i c, pe_i v] σ (pe_qi (fun z σ' => pe_B σ' ∧ (∀ b, b ∉ [40] → σ' b = σ b) ∧ pe_DW (σ' 29) (σ' 40) ∧ (c ≤ z ∧ z ≤ c + 4))) := by
  refine pe_in0 (lv := [some (pe_r 29), some (pe_i c), some (pe_i v), none, none]) ?_
  have hB0 := hB
  have J21 : ∀ x : Int × Int × pe_H, (pe_B x.2.2 ∧ (∀ b, b ∉ [40] → x.2.2 b = σ b) ∧ pe_DW (x.2.2 29) (x.2.2 40) ∧ (0 ≤ x.1 ∧ c ≤ x.2.1) ∧ ((x.1 ≤ 1000 ∧ x.2.1 ≤ c) ∨ (x.1 ≤ 100 ∧ x.2.1 ≤ c + 1) ∨ (x.1 ≤ 10 ∧ x.2.1 ≤ c + 2) ∨ (x.1 ≤ 1 ∧ x.2.1 ≤ c + 3) ∨ (x.1 = 0 ∧ x.2.1 ≤ c + 4))) → pe_G m_M_statusNumber 21 [some (pe_r 29), some (pe_i c), some (pe_i v), some (pe_i x.1), some (pe_i x.2.1)] [] x.2.2 (pe_qi (fun z σ' => pe_B σ' ∧ (∀ b, b ∉ [40] → σ' b = σ b) ∧ pe_DW (σ' 29) (σ' 40) ∧ (c ≤ z ∧ z ≤ c + 4))) := by
    refine pe_loop (fun x : Int × Int × pe_H => x.1.toNat) _ _ ?_
    intro x hI ih
    obtain ⟨d, a, τ⟩ := x
    dsimp only at hI ⊢
    obtain ⟨hB, hfr, hX⟩ := hI
    have v_29_1 : τ 29 1 = σ 29 1 := congrFun (hfr 29 (by decide)) 1
    have v_29_2 : τ 29 2 = σ 29 2 := congrFun (hfr 29 (by decide)) 2
    have v_29_3 : τ 29 3 = σ 29 3 := congrFun (hfr 29 (by decide)) 3
    have v_29_7 : τ 29 7 = σ 29 7 := congrFun (hfr 29 (by decide)) 7
    have v_29_21 : τ 29 21 = σ 29 21 := congrFun (hfr 29 (by decide)) 21
    have v_29_22 : τ 29 22 = σ 29 22 := congrFun (hfr 29 (by decide)) 22
    have v_29_27 : τ 29 27 = σ 29 27 := congrFun (hfr 29 (by decide)) 27
    obtain ⟨hD, hX⟩ := hX
    have hBt := hB
    refine pe_iload_n d_M_statusNumber_21 rfl ?_
    refine pe_if_le (t := 50) d_M_statusNumber_22 (by first | exact hB _ _ | exact hB0 _ _ | exact hBt _ _ | exact ⟨by omega, by omega⟩) (fun h22 => ?_) (fun h22 => ?_)
    · skip
      refine pe_iload d_M_statusNumber_50 rfl ?_
      refine pe_ri d_M_statusNumber_52 ?_
      exact ⟨hB, (fun b hb => hfr b (by simp at hb ⊢; try omega)), hD, by omega⟩
    · skip
      refine pe_aload_n d_M_statusNumber_25 rfl ?_
      refine pe_iload d_M_statusNumber_26 rfl ?_
      refine pe_bipush d_M_statusNumber_28 ?_
      refine pe_iload_n d_M_statusNumber_30 rfl ?_
      refine pe_iload_n d_M_statusNumber_31 rfl ?_
      refine pe_idivN d_M_statusNumber_32 (by omega) (by omega) ?_
      have q1 : 0 ≤ v / d := Int.ediv_nonneg (by omega) (by omega)
      have q2 : v / d ≤ v := Int.ediv_le_self _ (by omega)
      refine pe_bipush d_M_statusNumber_33 ?_
      refine pe_iremN d_M_statusNumber_35 (by omega) (by omega) ?_
      refine pe_iadd d_M_statusNumber_36 ?_
      refine pe_v2i d_M_statusNumber_37 c_M_228 i_M_status s_M_status rfl rfl (t_M_status hB (by omega) hD (by omega) (by omega)) (fun z37 σ37 hz37 => ?_)
      obtain ⟨hB, f37, x37⟩ := hz37
      try have u37_0 : σ37 29 1 = τ 29 1 := by first | exact o37 1 (by decide) | exact congrFun (f37 29 (by decide)) 1
      try have u37_1 : σ37 29 2 = τ 29 2 := by first | exact o37 2 (by decide) | exact congrFun (f37 29 (by decide)) 2
      try have u37_2 : σ37 29 3 = τ 29 3 := by first | exact o37 3 (by decide) | exact congrFun (f37 29 (by decide)) 3
      try have u37_3 : σ37 29 7 = τ 29 7 := by first | exact o37 7 (by decide) | exact congrFun (f37 29 (by decide)) 7
      try have u37_4 : σ37 29 21 = τ 29 21 := by first | exact o37 21 (by decide) | exact congrFun (f37 29 (by decide)) 21
      try have u37_5 : σ37 29 22 = τ 29 22 := by first | exact o37 22 (by decide) | exact congrFun (f37 29 (by decide)) 22
      try have u37_6 : σ37 29 27 = τ 29 27 := by first | exact o37 27 (by decide) | exact congrFun (f37 29 (by decide)) 27
      refine pe_istore d_M_statusNumber_40 ?_
      refine pe_iload_n d_M_statusNumber_42 rfl ?_
      refine pe_bipush d_M_statusNumber_43 ?_
      refine pe_idivN d_M_statusNumber_45 (by omega) (by omega) ?_
      refine pe_istore_n d_M_statusNumber_46 ?_
      refine pe_goto (t := 21) d_M_statusNumber_47 ?_
      exact ih (_, _, _) ⟨hB, (fun b hb => (f37 b (by simp at hb ⊢; try omega)).trans (hfr b (by simp at hb ⊢; try omega))), x37.1, by (try dsimp only); omega⟩ (by (try dsimp only); omega)
  have J2 : ∀ d : Int, (1 ≤ d ∧ d ≤ 1000) → pe_G m_M_statusNumber 2 [some (pe_r 29), some (pe_i c), some (pe_i v), some (pe_i d), none] [] σ (pe_qi (fun z σ' => pe_B σ' ∧ (∀ b, b ∉ [40] → σ' b = σ b) ∧ pe_DW (σ' 29) (σ' 40) ∧ (c ≤ z ∧ z ≤ c + 4))) := by
    refine pe_loop (fun d : Int => (2000 - d).toNat) _ _ ?_
    intro d hI ih
    refine pe_iload_n d_M_statusNumber_2 rfl ?_
    refine pe_bipush d_M_statusNumber_3 ?_
    refine pe_imul d_M_statusNumber_5 ?_
    refine pe_iload_n d_M_statusNumber_6 rfl ?_
    refine pe_icmp_gt (t := 18) d_M_statusNumber_7 (by first | exact hB _ _ | exact hB0 _ _ | exact hBt _ _ | exact ⟨by omega, by omega⟩) (by first | exact hB _ _ | exact hB0 _ _ | exact hBt _ _ | exact ⟨by omega, by omega⟩) (fun h7 => ?_) (fun h7 => ?_)
    · skip
      refine pe_iload_n d_M_statusNumber_18 rfl ?_
      refine pe_istore d_M_statusNumber_19 ?_
      exact J21 (_, _, _) ⟨hB, (fun b hb => rfl), hD, by (try dsimp only); omega⟩
    · skip
      refine pe_iload_n d_M_statusNumber_10 rfl ?_
      refine pe_bipush d_M_statusNumber_11 ?_
      refine pe_imul d_M_statusNumber_13 ?_
      refine pe_istore_n d_M_statusNumber_14 ?_
      refine pe_goto (t := 2) d_M_statusNumber_15 ?_
      exact ih _ (by omega) (by omega)
  refine pe_iconst d_M_statusNumber_0 ?_
  refine pe_istore_n d_M_statusNumber_1 ?_
  exact J2 _ (by omega)
theorem t_M_fillStatus {σ : pe_H} (hB : pe_B σ) (hM : pe_MEs σ) (hW : 4 ≤ σ 29 21 ∧ σ 29 21 ≤ 24 ∧ 2 ≤ σ 29 22 ∧ σ 29 22 ≤ 8) (hD : pe_DW (σ 29) (σ 40)) (hLO : pe_LO (σ 29) (σ 30) (σ 37) (σ 38) (σ 39)) : pe_M m_M_fillStatus [pe_r 29] σ (pe_qv (fun σ' => pe_B σ' ∧ (∀ b, b ∉ [40, 41] → σ' b = σ b) ∧ pe_DW (σ' 29) (σ' 40))) := by
  refine pe_in0 (lv := [some (pe_r 29), none, none, none]) ?_
  have hB0 := hB
  have hM0 := hM
  obtain ⟨hl, A30, A31, A36, ⟨hcu, hbg⟩, hma, hcl, hcg, hch, N30, N31, N36⟩ := hM
  have ix := pe_ix (W := σ 29 21) (H := σ 29 22) (r := σ 29 22 - 1) (c := 0) (by omega) (by omega) (by omega) (by omega)
  have lo := hLO.1 (σ 29 2) (by omega) (by omega) hbg
  have J86 : ∀ x : Int × Int × Int × pe_H, (pe_B x.2.2.2 ∧ (∀ b, b ∉ [40, 41] → x.2.2.2 b = σ b) ∧ pe_DW (x.2.2.2 29) (x.2.2.2 40) ∧ (0 ≤ x.2.2.1 ∧ x.2.2.1 ≤ σ 29 21)) → pe_G m_M_fillStatus 86 [some (pe_r 29), some (pe_i x.1), some (pe_i x.2.1), some (pe_i x.2.2.1)] [] x.2.2.2 (pe_qv (fun σ' => pe_B σ' ∧ (∀ b, b ∉ [40, 41] → σ' b = σ b) ∧ pe_DW (σ' 29) (σ' 40))) := by
    refine pe_loop (fun x : Int × Int × Int × pe_H => (300 - x.2.2.1).toNat) _ _ ?_
    intro x hI ih
    obtain ⟨n, p, i, τ⟩ := x
    dsimp only at hI ⊢
    obtain ⟨hB, hfr, hX⟩ := hI
    have v_29_1 : τ 29 1 = σ 29 1 := congrFun (hfr 29 (by decide)) 1
    have v_29_2 : τ 29 2 = σ 29 2 := congrFun (hfr 29 (by decide)) 2
    have v_29_3 : τ 29 3 = σ 29 3 := congrFun (hfr 29 (by decide)) 3
    have v_29_7 : τ 29 7 = σ 29 7 := congrFun (hfr 29 (by decide)) 7
    have v_29_21 : τ 29 21 = σ 29 21 := congrFun (hfr 29 (by decide)) 21
    have v_29_22 : τ 29 22 = σ 29 22 := congrFun (hfr 29 (by decide)) 22
    have v_29_27 : τ 29 27 = σ 29 27 := congrFun (hfr 29 (by decide)) 27
    obtain ⟨hD, hX⟩ := hX
    have ix2 := pe_ix (W := τ 29 21) (H := τ 29 22) (r := τ 29 22 - 1) (c := 0) (by omega) (by omega) (by omega) (by omega)
    have hBt := hB
    refine pe_iload_n d_M_fillStatus_86 rfl ?_
    refine pe_aload_n d_M_fillStatus_87 rfl ?_
    refine pe_geti f_M_78 d_M_fillStatus_88 rfl rfl 21 rfl ?_
    refine pe_icmp_ge (t := 119) d_M_fillStatus_91 (by first | exact hB _ _ | exact hB0 _ _ | exact hBt _ _ | exact ⟨by omega, by omega⟩) (by first | exact hB _ _ | exact hB0 _ _ | exact hBt _ _ | exact ⟨by omega, by omega⟩) (fun h91 => ?_) (fun h91 => ?_)
    · skip
      refine pe_rv d_M_fillStatus_119 ?_
      exact ⟨hB, (fun b hb => hfr b (by simp at hb ⊢; try omega)), hD⟩
    · skip
      refine pe_aload_n d_M_fillStatus_94 rfl ?_
      refine pe_getr f_M_53 d_M_fillStatus_95 rfl rfl ?_
      refine pe_aload_n d_M_fillStatus_98 rfl ?_
      refine pe_geti f_M_78 d_M_fillStatus_99 rfl rfl 21 rfl ?_
      refine pe_aload_n d_M_fillStatus_102 rfl ?_
      refine pe_geti f_M_81 d_M_fillStatus_103 rfl rfl 22 rfl ?_
      refine pe_iconst d_M_fillStatus_106 ?_
      refine pe_isub d_M_fillStatus_107 ?_
      refine pe_imul d_M_fillStatus_108 ?_
      refine pe_iload_n d_M_fillStatus_109 rfl ?_
      refine pe_iadd d_M_fillStatus_110 ?_
      refine pe_iconst d_M_fillStatus_111 ?_
      refine pe_iastT d_M_fillStatus_112 rfl (by omega) (by omega) hB (by first | exact hB _ _ | exact hB0 _ _ | exact hBt _ _ | exact ⟨by omega, by omega⟩) (fun σ112 hB e112 o112 f112 => ?_)
      try have u112_0 : σ112 29 1 = τ 29 1 := by first | exact o112 1 (by decide) | exact congrFun (f112 29 (by decide)) 1
      try have u112_1 : σ112 29 2 = τ 29 2 := by first | exact o112 2 (by decide) | exact congrFun (f112 29 (by decide)) 2
      try have u112_2 : σ112 29 3 = τ 29 3 := by first | exact o112 3 (by decide) | exact congrFun (f112 29 (by decide)) 3
      try have u112_3 : σ112 29 7 = τ 29 7 := by first | exact o112 7 (by decide) | exact congrFun (f112 29 (by decide)) 7
      try have u112_4 : σ112 29 21 = τ 29 21 := by first | exact o112 21 (by decide) | exact congrFun (f112 29 (by decide)) 21
      try have u112_5 : σ112 29 22 = τ 29 22 := by first | exact o112 22 (by decide) | exact congrFun (f112 29 (by decide)) 22
      try have u112_6 : σ112 29 27 = τ 29 27 := by first | exact o112 27 (by decide) | exact congrFun (f112 29 (by decide)) 27
      refine pe_iinc d_M_fillStatus_113 rfl ?_
      refine pe_goto (t := 86) d_M_fillStatus_116 ?_
      exact ih (_, _, _, _) ⟨hB, (fun b hb => (f112 b (by simp at hb ⊢; try omega)).trans (hfr b (by simp at hb ⊢; try omega))), pe_DW_to hD (congrFun (f112 29 (by decide)) 21) (congrFun (f112 29 (by decide)) 22) (f112 40 (by decide)), by (try dsimp only); omega⟩ (by (try dsimp only); omega)
  have J4 : ∀ x : Int × Int, ((1 ≤ x.1 ∧ x.1 ≤ x.2 + 1) ∧ (0 ≤ x.2 ∧ x.2 ≤ σ 29 2)) → pe_G m_M_fillStatus 4 [some (pe_r 29), some (pe_i x.1), some (pe_i x.2), none] [] σ (pe_qv (fun σ' => pe_B σ' ∧ (∀ b, b ∉ [40, 41] → σ' b = σ b) ∧ pe_DW (σ' 29) (σ' 40))) := by
    refine pe_loop (fun x : Int × Int => (300 - x.2).toNat) _ _ ?_
    intro x hI ih
    obtain ⟨n, p⟩ := x
    dsimp only at hI ⊢
    refine pe_iload_n d_M_fillStatus_4 rfl ?_
    refine pe_aload_n d_M_fillStatus_5 rfl ?_
    refine pe_geti f_M_117 d_M_fillStatus_6 rfl rfl 2 rfl ?_
    refine pe_icmp_ge (t := 37) d_M_fillStatus_9 (by first | exact hB _ _ | exact hB0 _ _ | exact hBt _ _ | exact ⟨by omega, by omega⟩) (by first | exact hB _ _ | exact hB0 _ _ | exact hBt _ _ | exact ⟨by omega, by omega⟩) (fun h9 => ?_) (fun h9 => ?_)
    · skip
      refine pe_aload_n d_M_fillStatus_37 rfl ?_
      refine pe_iconst d_M_fillStatus_38 ?_
      refine pe_iload_n d_M_fillStatus_39 rfl ?_
      refine pe_v2i d_M_fillStatus_40 c_M_231 i_M_statusNumber s_M_statusNumber rfl rfl (t_M_statusNumber hB (by omega) hD (by omega) (by omega)) (fun z40 σ40 hz40 => ?_)
      obtain ⟨hB, f40, x40⟩ := hz40
      try have u40_0 : σ40 29 1 = σ 29 1 := by first | exact o40 1 (by decide) | exact congrFun (f40 29 (by decide)) 1
      try have u40_1 : σ40 29 2 = σ 29 2 := by first | exact o40 2 (by decide) | exact congrFun (f40 29 (by decide)) 2
      try have u40_2 : σ40 29 3 = σ 29 3 := by first | exact o40 3 (by decide) | exact congrFun (f40 29 (by decide)) 3
      try have u40_3 : σ40 29 7 = σ 29 7 := by first | exact o40 7 (by decide) | exact congrFun (f40 29 (by decide)) 7
      try have u40_4 : σ40 29 21 = σ 29 21 := by first | exact o40 21 (by decide) | exact congrFun (f40 29 (by decide)) 21
      try have u40_5 : σ40 29 22 = σ 29 22 := by first | exact o40 22 (by decide) | exact congrFun (f40 29 (by decide)) 22
      try have u40_6 : σ40 29 27 = σ 29 27 := by first | exact o40 27 (by decide) | exact congrFun (f40 29 (by decide)) 27
      refine pe_istore_n d_M_fillStatus_43 ?_
      refine pe_aload_n d_M_fillStatus_44 rfl ?_
      refine pe_iload_n d_M_fillStatus_45 rfl ?_
      refine pe_bipush d_M_fillStatus_46 ?_
      refine pe_v2i d_M_fillStatus_48 c_M_228 i_M_status s_M_status rfl rfl (t_M_status hB (by omega) x40.1 (by omega) (by omega)) (fun z48 σ48 hz48 => ?_)
      obtain ⟨hB, f48, x48⟩ := hz48
      try have u48_0 : σ48 29 1 = σ40 29 1 := by first | exact o48 1 (by decide) | exact congrFun (f48 29 (by decide)) 1
      try have u48_1 : σ48 29 2 = σ40 29 2 := by first | exact o48 2 (by decide) | exact congrFun (f48 29 (by decide)) 2
      try have u48_2 : σ48 29 3 = σ40 29 3 := by first | exact o48 3 (by decide) | exact congrFun (f48 29 (by decide)) 3
      try have u48_3 : σ48 29 7 = σ40 29 7 := by first | exact o48 7 (by decide) | exact congrFun (f48 29 (by decide)) 7
      try have u48_4 : σ48 29 21 = σ40 29 21 := by first | exact o48 21 (by decide) | exact congrFun (f48 29 (by decide)) 21
      try have u48_5 : σ48 29 22 = σ40 29 22 := by first | exact o48 22 (by decide) | exact congrFun (f48 29 (by decide)) 22
      try have u48_6 : σ48 29 27 = σ40 29 27 := by first | exact o48 27 (by decide) | exact congrFun (f48 29 (by decide)) 27
      refine pe_istore_n d_M_fillStatus_51 ?_
      refine pe_aload_n d_M_fillStatus_52 rfl ?_
      refine pe_iload_n d_M_fillStatus_53 rfl ?_
      refine pe_aload_n d_M_fillStatus_54 rfl ?_
      refine pe_getr f_M_44 d_M_fillStatus_55 rfl rfl ?_
      refine pe_aload_n d_M_fillStatus_58 rfl ?_
      refine pe_geti f_M_117 d_M_fillStatus_59 rfl rfl 2 rfl ?_
      skip
      refine pe_iald d_M_fillStatus_62 rfl (by omega) (by omega) ?_
      refine pe_iconst d_M_fillStatus_63 ?_
      refine pe_iadd d_M_fillStatus_64 ?_
      have lo2 : σ48 38 (σ48 29 2) = σ 38 (σ 29 2) := by rw [show σ48 29 2 = σ 29 2 by omega, show σ48 38 = σ 38 from ((f48 38 (by decide)).trans ((f40 38 (by decide)).trans (rfl)))]
      refine pe_v2i d_M_fillStatus_65 c_M_231 i_M_statusNumber s_M_statusNumber rfl rfl (t_M_statusNumber hB (by omega) x48.1 (by omega) (by omega)) (fun z65 σ65 hz65 => ?_)
      obtain ⟨hB, f65, x65⟩ := hz65
      try have u65_0 : σ65 29 1 = σ48 29 1 := by first | exact o65 1 (by decide) | exact congrFun (f65 29 (by decide)) 1
      try have u65_1 : σ65 29 2 = σ48 29 2 := by first | exact o65 2 (by decide) | exact congrFun (f65 29 (by decide)) 2
      try have u65_2 : σ65 29 3 = σ48 29 3 := by first | exact o65 3 (by decide) | exact congrFun (f65 29 (by decide)) 3
      try have u65_3 : σ65 29 7 = σ48 29 7 := by first | exact o65 7 (by decide) | exact congrFun (f65 29 (by decide)) 7
      try have u65_4 : σ65 29 21 = σ48 29 21 := by first | exact o65 21 (by decide) | exact congrFun (f65 29 (by decide)) 21
      try have u65_5 : σ65 29 22 = σ48 29 22 := by first | exact o65 22 (by decide) | exact congrFun (f65 29 (by decide)) 22
      try have u65_6 : σ65 29 27 = σ48 29 27 := by first | exact o65 27 (by decide) | exact congrFun (f65 29 (by decide)) 27
      refine pe_istore_n d_M_fillStatus_68 ?_
      refine pe_aload_n d_M_fillStatus_69 rfl ?_
      refine pe_geti f_M_111 d_M_fillStatus_70 rfl rfl 7 rfl ?_
      refine pe_if_le (t := 84) d_M_fillStatus_73 (by first | exact hB _ _ | exact hB0 _ _ | exact hBt _ _ | exact ⟨by omega, by omega⟩) (fun h73 => ?_) (fun h73 => ?_)
      · skip
        refine pe_iconst d_M_fillStatus_84 ?_
        refine pe_istore_n d_M_fillStatus_85 ?_
        first
        | exact J86 (_, _, _, _) ⟨hB, (fun b hb => (f65 b (by simp at hb ⊢; try omega)).trans ((f48 b (by simp at hb ⊢; try omega)).trans ((f40 b (by simp at hb ⊢; try omega)).trans (rfl)))), x80.1, by (try dsimp only); omega⟩
        | exact J86 (_, _, _, _) ⟨hB, (fun b hb => (f65 b (by simp at hb ⊢; try omega)).trans ((f48 b (by simp at hb ⊢; try omega)).trans ((f40 b (by simp at hb ⊢; try omega)).trans (rfl)))), x65.1, by (try dsimp only); omega⟩
      · skip
        refine pe_aload_n d_M_fillStatus_76 rfl ?_
        refine pe_iload_n d_M_fillStatus_77 rfl ?_
        refine pe_bipush d_M_fillStatus_78 ?_
        refine pe_v2i d_M_fillStatus_80 c_M_228 i_M_status s_M_status rfl rfl (t_M_status hB (by omega) x65.1 (by omega) (by omega)) (fun z80 σ80 hz80 => ?_)
        obtain ⟨hB, f80, x80⟩ := hz80
        try have u80_0 : σ80 29 1 = σ65 29 1 := by first | exact o80 1 (by decide) | exact congrFun (f80 29 (by decide)) 1
        try have u80_1 : σ80 29 2 = σ65 29 2 := by first | exact o80 2 (by decide) | exact congrFun (f80 29 (by decide)) 2
        try have u80_2 : σ80 29 3 = σ65 29 3 := by first | exact o80 3 (by decide) | exact congrFun (f80 29 (by decide)) 3
        try have u80_3 : σ80 29 7 = σ65 29 7 := by first | exact o80 7 (by decide) | exact congrFun (f80 29 (by decide)) 7
        try have u80_4 : σ80 29 21 = σ65 29 21 := by first | exact o80 21 (by decide) | exact congrFun (f80 29 (by decide)) 21
        try have u80_5 : σ80 29 22 = σ65 29 22 := by first | exact o80 22 (by decide) | exact congrFun (f80 29 (by decide)) 22
        try have u80_6 : σ80 29 27 = σ65 29 27 := by first | exact o80 27 (by decide) | exact congrFun (f80 29 (by decide)) 27
        refine pe_pop d_M_fillStatus_83 ?_
        refine pe_iconst d_M_fillStatus_84 ?_
        refine pe_istore_n d_M_fillStatus_85 ?_
        first
        | exact J86 (_, _, _, _) ⟨hB, (fun b hb => (f80 b (by simp at hb ⊢; try omega)).trans ((f65 b (by simp at hb ⊢; try omega)).trans ((f48 b (by simp at hb ⊢; try omega)).trans ((f40 b (by simp at hb ⊢; try omega)).trans (rfl))))), x80.1, by (try dsimp only); omega⟩
        | exact J86 (_, _, _, _) ⟨hB, (fun b hb => (f80 b (by simp at hb ⊢; try omega)).trans ((f65 b (by simp at hb ⊢; try omega)).trans ((f48 b (by simp at hb ⊢; try omega)).trans ((f40 b (by simp at hb ⊢; try omega)).trans (rfl))))), x65.1, by (try dsimp only); omega⟩
    · skip
      refine pe_aload_n d_M_fillStatus_12 rfl ?_
      refine pe_getr f_M_7 d_M_fillStatus_13 rfl rfl ?_
      refine pe_iload_n d_M_fillStatus_16 rfl ?_
      refine pe_iald d_M_fillStatus_17 rfl (by omega) (by omega) ?_
      refine pe_bipush d_M_fillStatus_18 ?_
      refine pe_icmp_ne (t := 29) d_M_fillStatus_20 (by first | exact hB _ _ | exact hB0 _ _ | exact hBt _ _ | exact ⟨by omega, by omega⟩) (by first | exact hB _ _ | exact hB0 _ _ | exact hBt _ _ | exact ⟨by omega, by omega⟩) (fun h20 => ?_) (fun h20 => ?_)
      · skip
        refine pe_iload_n d_M_fillStatus_29 rfl ?_
        refine pe_istore_n d_M_fillStatus_30 ?_
        refine pe_iinc d_M_fillStatus_31 rfl ?_
        refine pe_goto (t := 4) d_M_fillStatus_34 ?_
        exact ih (_, _) (by (try dsimp only); omega) (by (try dsimp only); omega)
      · skip
        refine pe_iload_n d_M_fillStatus_23 rfl ?_
        refine pe_iconst d_M_fillStatus_24 ?_
        refine pe_iadd d_M_fillStatus_25 ?_
        refine pe_goto (t := 30) d_M_fillStatus_26 ?_
        refine pe_istore_n d_M_fillStatus_30 ?_
        refine pe_iinc d_M_fillStatus_31 rfl ?_
        refine pe_goto (t := 4) d_M_fillStatus_34 ?_
        exact ih (_, _) (by (try dsimp only); omega) (by (try dsimp only); omega)
  refine pe_iconst d_M_fillStatus_0 ?_
  refine pe_istore_n d_M_fillStatus_1 ?_
  refine pe_iconst d_M_fillStatus_2 ?_
  refine pe_istore_n d_M_fillStatus_3 ?_
  exact J4 (_, _) (by (try dsimp only); omega)
