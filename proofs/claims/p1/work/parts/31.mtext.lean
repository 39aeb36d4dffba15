theorem t_M_after {σ : pe_H} {p : Int} (hB : pe_B σ) (hl : 0 ≤ σ 29 1 ∧ σ 29 1 ≤ 200) (hp : 0 ≤ p ∧ p < σ 29 1) : pe_M m_M_after [pe_r 29, pe_i p] σ (pe_qp σ (fun z => (p < z ∧ z ≤ σ 29 1) ∧ pe_bg (σ 30) (σ 29 1) z ∧ ∀ j, p < j → j < z → ¬ pe_bg (σ 30) (σ 29 1) j)) := by
  refine pe_in0 (lv := [some (pe_r 29), some (pe_i p), none]) ?_
  have hB0 := hB
  have J4 : ∀ q : Int, ((p < q ∧ q ≤ σ 29 1) ∧ ∀ j, p < j → j < q → ¬ pe_bg (σ 30) (σ 29 1) j) → pe_G m_M_after 4 [some (pe_r 29), some (pe_i p), some (pe_i q)] [] σ (pe_qp σ (fun z => (p < z ∧ z ≤ σ 29 1) ∧ pe_bg (σ 30) (σ 29 1) z ∧ ∀ j, p < j → j < z → ¬ pe_bg (σ 30) (σ 29 1) j)) := by
    refine pe_loop (fun q : Int => (300 - q).toNat) _ _ ?_
    intro q hI ih
    refine pe_aload_n d_M_after_4 rfl ?_
    refine pe_iload_n d_M_after_5 rfl ?_
    refine pe_v1p d_M_after_6 c_M_94 i_M_begins s_M_begins rfl rfl (t_M_begins hB (by omega) (by omega)) (fun z6 hz6 => ?_)
    refine pe_if_ne (t := 18) d_M_after_9 (by first | exact hB _ _ | exact hB0 _ _ | exact hBt _ _ | exact ⟨by omega, by omega⟩) (fun h9 => ?_) (fun h9 => ?_)
    · skip
      have yb : pe_bg (σ 30) (σ 29 1) q := hz6.2.mp (by omega)
      refine pe_iload_n d_M_after_18 rfl ?_
      refine pe_ri d_M_after_19 ?_
      exact ⟨rfl, hI.1, yb, hI.2⟩
    · skip
      have nb : ¬ pe_bg (σ 30) (σ 29 1) q := fun h => by have := hz6.2.mpr h; omega
      have n1 : ¬ σ 29 1 ≤ q := fun h => nb (Or.inl h)
      refine pe_iinc d_M_after_12 rfl ?_
      refine pe_goto (t := 4) d_M_after_15 ?_
      exact ih _ ⟨by omega, fun j h1 h2 => (Classical.em (j = q)).elim (fun e => e ▸ nb) (fun e => hI.2 j h1 (by omega))⟩ (by omega)
  refine pe_iload_n d_M_after_0 rfl ?_
  refine pe_iconst d_M_after_1 ?_
  refine pe_iadd d_M_after_2 ?_
  refine pe_istore_n d_M_after_3 ?_
  exact J4 _ ⟨by omega, fun j h1 h2 => by omega⟩
theorem t_M_before {σ : pe_H} {p : Int} (hB : pe_B σ) (hl : 0 ≤ σ 29 1 ∧ σ 29 1 ≤ 200) (hp : 0 < p ∧ p ≤ σ 29 1) : pe_M m_M_before [pe_r 29, pe_i p] σ (pe_qp σ (fun z => (0 ≤ z ∧ z < p) ∧ pe_bg (σ 30) (σ 29 1) z)) := by
  refine pe_in0 (lv := [some (pe_r 29), some (pe_i p), none]) ?_
  have hB0 := hB
  have J4 : ∀ q : Int, (0 ≤ q ∧ q < p) → pe_G m_M_before 4 [some (pe_r 29), some (pe_i p), some (pe_i q)] [] σ (pe_qp σ (fun z => (0 ≤ z ∧ z < p) ∧ pe_bg (σ 30) (σ 29 1) z)) := by
    refine pe_loop (fun q : Int => (q + 10).toNat) _ _ ?_
    intro q hI ih
    refine pe_aload_n d_M_before_4 rfl ?_
    refine pe_iload_n d_M_before_5 rfl ?_
    refine pe_v1p d_M_before_6 c_M_94 i_M_begins s_M_begins rfl rfl (t_M_begins hB (by omega) (by omega)) (fun z6 hz6 => ?_)
    refine pe_if_ne (t := 18) d_M_before_9 (by first | exact hB _ _ | exact hB0 _ _ | exact hBt _ _ | exact ⟨by omega, by omega⟩) (fun h9 => ?_) (fun h9 => ?_)
    · skip
      have yb : pe_bg (σ 30) (σ 29 1) q := hz6.2.mp (by omega)
      refine pe_iload_n d_M_before_18 rfl ?_
      refine pe_ri d_M_before_19 ?_
      exact ⟨rfl, hI, yb⟩
    · skip
      have nb : ¬ pe_bg (σ 30) (σ 29 1) q := fun h => by have := hz6.2.mpr h; omega
      have n1 : ¬ q < 1 := fun h => nb (Or.inr (Or.inr (Or.inl h)))
      refine pe_iinc d_M_before_12 rfl ?_
      refine pe_goto (t := 4) d_M_before_15 ?_
      exact ih _ (by omega) (by omega)
  refine pe_iload_n d_M_before_0 rfl ?_
  refine pe_iconst d_M_before_1 ?_
  refine pe_isub d_M_before_2 ?_
  refine pe_istore_n d_M_before_3 ?_
  exact J4 _ (by omega)
theorem t_M_widthOf {σ : pe_H} {p c : Int} (hB : pe_B σ) (hl : 0 ≤ σ 29 1 ∧ σ 29 1 ≤ 200) (hc : 1 ≤ σ 29 21 ∧ σ 29 21 ≤ 24) (hp : 0 ≤ p ∧ p ≤ σ 29 1) (hk : 0 ≤ c ∧ c ≤ σ 29 21) : pe_M m_M_widthOf [pe_r 29, pe_i p, pe_i c] σ (pe_qp σ (fun z => (0 ≤ z ∧ z ≤ 4) ∧ (z = 1 ∨ z = 2 ∨ c + z ≤ σ 29 21) ∧ (z = 0 → c = σ 29 21) ∧ (p < σ 29 1 → pe_wi (σ 30 p) → z = 2))) := by
  refine pe_in0 (lv := [some (pe_r 29), some (pe_i p), some (pe_i c)]) ?_
  have hB0 := hB
  refine pe_iload_n d_M_widthOf_0 rfl ?_
  refine pe_aload_n d_M_widthOf_1 rfl ?_
  refine pe_geti f_M_87 d_M_widthOf_2 rfl rfl 1 rfl ?_
  refine pe_icmp_eq (t := 19) d_M_widthOf_5 (by first | exact hB _ _ | exact hB0 _ _ | exact hBt _ _ | exact ⟨by omega, by omega⟩) (by first | exact hB _ _ | exact hB0 _ _ | exact hBt _ _ | exact ⟨by omega, by omega⟩) (fun h5 => ?_) (fun h5 => ?_)
  · skip
    refine pe_iconst d_M_widthOf_19 ?_
    refine pe_ri d_M_widthOf_20 ?_
    refine ⟨rfl, ?_⟩
    try dsimp only
    try unfold pe_wi at *
    omega
  · skip
    refine pe_aload_n d_M_widthOf_8 rfl ?_
    refine pe_getr f_M_7 d_M_widthOf_9 rfl rfl ?_
    refine pe_iload_n d_M_widthOf_12 rfl ?_
    refine pe_iald d_M_widthOf_13 rfl (by omega) (by omega) ?_
    refine pe_bipush d_M_widthOf_14 ?_
    refine pe_icmp_ne (t := 21) d_M_widthOf_16 (by first | exact hB _ _ | exact hB0 _ _ | exact hBt _ _ | exact ⟨by omega, by omega⟩) (by first | exact hB _ _ | exact hB0 _ _ | exact hBt _ _ | exact ⟨by omega, by omega⟩) (fun h16 => ?_) (fun h16 => ?_)
    · skip
      refine pe_aload_n d_M_widthOf_21 rfl ?_
      refine pe_getr f_M_7 d_M_widthOf_22 rfl rfl ?_
      refine pe_iload_n d_M_widthOf_25 rfl ?_
      refine pe_iald d_M_widthOf_26 rfl (by omega) (by omega) ?_
      refine pe_bipush d_M_widthOf_27 ?_
      refine pe_icmp_ne (t := 61) d_M_widthOf_29 (by first | exact hB _ _ | exact hB0 _ _ | exact hBt _ _ | exact ⟨by omega, by omega⟩) (by first | exact hB _ _ | exact hB0 _ _ | exact hBt _ _ | exact ⟨by omega, by omega⟩) (fun h29 => ?_) (fun h29 => ?_)
      · skip
        refine pe_aload_n d_M_widthOf_61 rfl ?_
        refine pe_getr f_M_7 d_M_widthOf_62 rfl rfl ?_
        refine pe_iload_n d_M_widthOf_65 rfl ?_
        refine pe_iald d_M_widthOf_66 rfl (by omega) (by omega) ?_
        refine pe_s1p d_M_widthOf_67 c_M_97 z_M_isWide (t_M_isWide (by first | exact hB _ _ | exact hB0 _ _ | exact hBt _ _ | exact ⟨by omega, by omega⟩)) (fun z67 hz67 => ?_)
        refine pe_if_eq (t := 77) d_M_widthOf_70 (by first | exact hB _ _ | exact hB0 _ _ | exact hBt _ _ | exact ⟨by omega, by omega⟩) (fun h70 => ?_) (fun h70 => ?_)
        · skip
          refine pe_iconst d_M_widthOf_77 ?_
          refine pe_ri d_M_widthOf_78 ?_
          refine ⟨rfl, ?_⟩
          try dsimp only
          try unfold pe_wi at *
          omega
        · skip
          refine pe_iconst d_M_widthOf_73 ?_
          refine pe_goto (t := 78) d_M_widthOf_74 ?_
          refine pe_ri d_M_widthOf_78 ?_
          refine ⟨rfl, ?_⟩
          try dsimp only
          try unfold pe_wi at *
          omega
      · skip
        refine pe_aload_n d_M_widthOf_32 rfl ?_
        refine pe_geti f_M_78 d_M_widthOf_33 rfl rfl 21 rfl ?_
        refine pe_iload_n d_M_widthOf_36 rfl ?_
        refine pe_isub d_M_widthOf_37 ?_
        refine pe_iconst d_M_widthOf_38 ?_
        refine pe_iload_n d_M_widthOf_39 rfl ?_
        refine pe_iconst d_M_widthOf_40 ?_
        refine pe_iremN d_M_widthOf_41 (by omega) (by omega) ?_
        refine pe_isub d_M_widthOf_42 ?_
        refine pe_icmp_ge (t := 55) d_M_widthOf_43 (by first | exact hB _ _ | exact hB0 _ _ | exact hBt _ _ | exact ⟨by omega, by omega⟩) (by first | exact hB _ _ | exact hB0 _ _ | exact hBt _ _ | exact ⟨by omega, by omega⟩) (fun h43 => ?_) (fun h43 => ?_)
        · skip
          refine pe_iconst d_M_widthOf_55 ?_
          refine pe_iload_n d_M_widthOf_56 rfl ?_
          refine pe_iconst d_M_widthOf_57 ?_
          refine pe_iremN d_M_widthOf_58 (by omega) (by omega) ?_
          refine pe_isub d_M_widthOf_59 ?_
          refine pe_ri d_M_widthOf_60 ?_
          refine ⟨rfl, ?_⟩
          try dsimp only
          try unfold pe_wi at *
          omega
        · skip
          refine pe_aload_n d_M_widthOf_46 rfl ?_
          refine pe_geti f_M_78 d_M_widthOf_47 rfl rfl 21 rfl ?_
          refine pe_iload_n d_M_widthOf_50 rfl ?_
          refine pe_isub d_M_widthOf_51 ?_
          refine pe_goto (t := 60) d_M_widthOf_52 ?_
          refine pe_ri d_M_widthOf_60 ?_
          refine ⟨rfl, ?_⟩
          try dsimp only
          try unfold pe_wi at *
          omega
    · skip
      refine pe_iconst d_M_widthOf_19 ?_
      refine pe_ri d_M_widthOf_20 ?_
      refine ⟨rfl, ?_⟩
      try dsimp only
      try unfold pe_wi at *
      omega
theorem t_M_isSmall {σ : pe_H} (hB : pe_B σ) : pe_M m_M_isSmall [pe_r 29] σ (pe_qp σ (fun z => (z = 0 ∨ z = 1) ∧ (z = 1 ↔ σ 29 21 < 4 ∨ σ 29 22 < 2))) := by
  refine pe_in0 (lv := [some (pe_r 29)]) ?_
  have hB0 := hB
  refine pe_aload_n d_M_isSmall_0 rfl ?_
  refine pe_geti f_M_78 d_M_isSmall_1 rfl rfl 21 rfl ?_
  refine pe_iconst d_M_isSmall_4 ?_
  refine pe_icmp_lt (t := 16) d_M_isSmall_5 (by first | exact hB _ _ | exact hB0 _ _ | exact hBt _ _ | exact ⟨by omega, by omega⟩) (by first | exact hB _ _ | exact hB0 _ _ | exact hBt _ _ | exact ⟨by omega, by omega⟩) (fun h5 => ?_) (fun h5 => ?_)
  · skip
    refine pe_iconst d_M_isSmall_16 ?_
    refine pe_goto (t := 21) d_M_isSmall_17 ?_
    refine pe_rz d_M_isSmall_21 (by first | exact Or.inl rfl | exact Or.inr rfl | omega) ?_
    exact ⟨rfl, by (try dsimp only); omega⟩
  · skip
    refine pe_aload_n d_M_isSmall_8 rfl ?_
    refine pe_geti f_M_81 d_M_isSmall_9 rfl rfl 22 rfl ?_
    refine pe_iconst d_M_isSmall_12 ?_
    refine pe_icmp_ge (t := 20) d_M_isSmall_13 (by first | exact hB _ _ | exact hB0 _ _ | exact hBt _ _ | exact ⟨by omega, by omega⟩) (by first | exact hB _ _ | exact hB0 _ _ | exact hBt _ _ | exact ⟨by omega, by omega⟩) (fun h13 => ?_) (fun h13 => ?_)
    · skip
      refine pe_iconst d_M_isSmall_20 ?_
      refine pe_rz d_M_isSmall_21 (by first | exact Or.inl rfl | exact Or.inr rfl | omega) ?_
      exact ⟨rfl, by (try dsimp only); omega⟩
    · skip
      refine pe_iconst d_M_isSmall_16 ?_
      refine pe_goto (t := 21) d_M_isSmall_17 ?_
      refine pe_rz d_M_isSmall_21 (by first | exact Or.inl rfl | exact Or.inr rfl | omega) ?_
      exact ⟨rfl, by (try dsimp only); omega⟩
theorem t_M_open {σ : pe_H} {p n : Int} (hB : pe_B σ) (hl : 0 ≤ σ 29 1 ∧ σ 29 1 ≤ 200) (hp : 0 ≤ p ∧ p ≤ σ 29 1) (hn : 0 ≤ n ∧ σ 29 1 + n ≤ 200) (A30 : (∀ j, 0 ≤ σ 30 j ∧ σ 30 j ≤ 65535)) (N30 : (∀ j, 0 ≤ j → j < σ 29 1 → σ 30 j ≠ 0)) : pe_M m_M_open [pe_r 29, pe_i p, pe_i n] σ (pe_qv (fun σ' => pe_B σ' ∧ (∀ b, b ∉ [29, 30] → σ' b = σ b) ∧ (∀ j, j ∉ ([1] : List Int) → σ' 29 j = σ 29 j) ∧ (σ' 29 1 = σ 29 1 + n ∧ (∀ j, 0 ≤ σ' 30 j ∧ σ' 30 j ≤ 65535) ∧ (∀ j, 0 ≤ j → j < σ 29 1 + n → (j < p ∨ p + n ≤ j) → σ' 30 j ≠ 0)))) := by
  refine pe_in0 (lv := [some (pe_r 29), some (pe_i p), some (pe_i n), none]) ?_
  have hB0 := hB
  have J7 : ∀ x : Int × pe_H, (pe_B x.2 ∧ (∀ b, b ∉ [30] → x.2 b = σ b) ∧ (∀ j, 0 ≤ x.2 30 j ∧ x.2 30 j ≤ 65535) ∧ (∀ j, 0 ≤ j → j ≤ x.1 → x.2 30 j ≠ 0) ∧ (∀ j, x.1 + n < j → j < σ 29 1 + n → x.2 30 j ≠ 0) ∧ (p - 1 ≤ x.1 ∧ x.1 < σ 29 1)) → pe_G m_M_open 7 [some (pe_r 29), some (pe_i p), some (pe_i n), some (pe_i x.1)] [] x.2 (pe_qv (fun σ' => pe_B σ' ∧ (∀ b, b ∉ [29, 30] → σ' b = σ b) ∧ (∀ j, j ∉ ([1] : List Int) → σ' 29 j = σ 29 j) ∧ (σ' 29 1 = σ 29 1 + n ∧ (∀ j, 0 ≤ σ' 30 j ∧ σ' 30 j ≤ 65535) ∧ (∀ j, 0 ≤ j → j < σ 29 1 + n → (j < p ∨ p + n ≤ j) → σ' 30 j ≠ 0)))) := by
    refine pe_loop (fun x : Int × pe_H => (x.1 + 10).toNat) _ _ ?_
    intro x hI ih
    obtain ⟨k, τ⟩ := x
    dsimp only at hI ⊢
    obtain ⟨hB, hfr, hX⟩ := hI
    have v_29_1 : τ 29 1 = σ 29 1 := congrFun (hfr 29 (by decide)) 1
    obtain ⟨A30, N1, N2, hX⟩ := hX
    have hBt := hB
    refine pe_iload_n d_M_open_7 rfl ?_
    refine pe_iload_n d_M_open_8 rfl ?_
    refine pe_icmp_lt (t := 32) d_M_open_9 (by first | exact hB _ _ | exact hB0 _ _ | exact hBt _ _ | exact ⟨by omega, by omega⟩) (by first | exact hB _ _ | exact hB0 _ _ | exact hBt _ _ | exact ⟨by omega, by omega⟩) (fun h9 => ?_) (fun h9 => ?_)
    · skip
      refine pe_aload_n d_M_open_32 rfl ?_
      refine pe_dup d_M_open_33 ?_
      refine pe_geti f_M_87 d_M_open_34 rfl rfl 1 rfl ?_
      refine pe_iload_n d_M_open_37 rfl ?_
      refine pe_iadd d_M_open_38 ?_
      refine pe_putiT f_M_87 g_11_1 d_M_open_39 rfl rfl 1 rfl hB (by first | exact hB _ _ | exact hB0 _ _ | exact hBt _ _ | exact ⟨by omega, by omega⟩) (fun σ39 hB e39 o39 f39 => ?_)
      try have u39_0 : σ39 29 1 = τ 29 1 := by first | exact o39 1 (by decide) | exact congrFun (f39 29 (by decide)) 1
      try have u39_1 : σ39 29 2 = τ 29 2 := by first | exact o39 2 (by decide) | exact congrFun (f39 29 (by decide)) 2
      try have u39_2 : σ39 29 3 = τ 29 3 := by first | exact o39 3 (by decide) | exact congrFun (f39 29 (by decide)) 3
      refine pe_rv d_M_open_42 ?_
      exact ⟨hB, (fun b hb => (f39 b (by simp at hb ⊢; try omega)).trans (hfr b (by simp at hb ⊢; try omega))), (fun j hj => (o39 j (by simp at hj ⊢; try omega)).trans (congrFun (hfr 29 (by decide)) j)), by omega, by rw [f39 30 (by decide)]; exact A30, fun j a b c => by rw [f39 30 (by decide)]; exact c.elim (fun c => N1 j a (by omega)) (fun c => N2 j (by omega) b)⟩
    · skip
      refine pe_aload_n d_M_open_12 rfl ?_
      refine pe_getr f_M_7 d_M_open_13 rfl rfl ?_
      refine pe_iload_n d_M_open_16 rfl ?_
      refine pe_iload_n d_M_open_17 rfl ?_
      refine pe_iadd d_M_open_18 ?_
      refine pe_aload_n d_M_open_19 rfl ?_
      refine pe_getr f_M_7 d_M_open_20 rfl rfl ?_
      refine pe_iload_n d_M_open_23 rfl ?_
      refine pe_iald d_M_open_24 rfl (by omega) (by omega) ?_
      refine pe_iastT d_M_open_25 rfl (by omega) (by omega) hB (by first | exact hB _ _ | exact hB0 _ _ | exact hBt _ _ | exact ⟨by omega, by omega⟩) (fun σ25 hB e25 o25 f25 => ?_)
      try have u25_0 : σ25 29 1 = τ 29 1 := by first | exact o25 1 (by decide) | exact congrFun (f25 29 (by decide)) 1
      try have u25_1 : σ25 29 2 = τ 29 2 := by first | exact o25 2 (by decide) | exact congrFun (f25 29 (by decide)) 2
      try have u25_2 : σ25 29 3 = τ 29 3 := by first | exact o25 3 (by decide) | exact congrFun (f25 29 (by decide)) 3
      have A30 : (∀ j, 0 ≤ σ25 30 j ∧ σ25 30 j ≤ 65535) := pe_all_up e25 o25 A30 (by first | omega | exact A30 _ | assumption)
      have hlo : ∀ j, 0 ≤ j → j ≤ k - 1 → σ25 30 j ≠ 0 := fun j a b => by rw [o25 j (by omega)]; exact N1 j a (by omega)
      have hhi : ∀ j, k - 1 + n < j → j < σ 29 1 + n → σ25 30 j ≠ 0 := fun j a b => by
        by_cases e : j = k + n
        · rw [e, e25]; exact N1 k (by omega) (by omega)
        · rw [o25 j e]; exact N2 j (by omega) b
      refine pe_iinc d_M_open_26 rfl ?_
      refine pe_goto (t := 7) d_M_open_29 ?_
      exact ih (_, _) ⟨hB, (fun b hb => (f25 b (by simp at hb ⊢; try omega)).trans (hfr b (by simp at hb ⊢; try omega))), A30, hlo, hhi, by (try dsimp only); omega⟩ (by (try dsimp only); omega)
  refine pe_aload_n d_M_open_0 rfl ?_
  refine pe_geti f_M_87 d_M_open_1 rfl rfl 1 rfl ?_
  refine pe_iconst d_M_open_4 ?_
  refine pe_isub d_M_open_5 ?_
  refine pe_istore_n d_M_open_6 ?_
  exact J7 (_, _) ⟨hB, (fun b hb => rfl), A30, fun j a b => N30 j a (by (try dsimp only at *); omega), fun j a b => by (try dsimp only at *); omega, by (try dsimp only); omega⟩
theorem t_M_close {σ : pe_H} {p n : Int} (hB : pe_B σ) (hl : 0 ≤ σ 29 1 ∧ σ 29 1 ≤ 200) (hp : 0 ≤ p ∧ 0 ≤ n ∧ p + n ≤ σ 29 1) (A30 : (∀ j, 0 ≤ σ 30 j ∧ σ 30 j ≤ 65535)) (N30 : (∀ j, 0 ≤ j → j < σ 29 1 → σ 30 j ≠ 0)) : pe_M m_M_close [pe_r 29, pe_i p, pe_i n] σ (pe_qv (fun σ' => pe_B σ' ∧ (∀ b, b ∉ [29, 30] → σ' b = σ b) ∧ (∀ j, j ∉ ([1] : List Int) → σ' 29 j = σ 29 j) ∧ (σ' 29 1 = σ 29 1 - n ∧ (∀ j, 0 ≤ σ' 30 j ∧ σ' 30 j ≤ 65535) ∧ (∀ j, 0 ≤ j → j < σ 29 1 - n → σ' 30 j ≠ 0)))) := by
  refine pe_in0 (lv := [some (pe_r 29), some (pe_i p), some (pe_i n), none]) ?_
  have hB0 := hB
  have J2 : ∀ x : Int × pe_H, (pe_B x.2 ∧ (∀ b, b ∉ [30] → x.2 b = σ b) ∧ (∀ j, 0 ≤ x.2 30 j ∧ x.2 30 j ≤ 65535) ∧ (∀ j, 0 ≤ j → j < x.1 → x.2 30 j ≠ 0) ∧ (∀ j, x.1 + n ≤ j → j < σ 29 1 → x.2 30 j ≠ 0) ∧ (p ≤ x.1 ∧ x.1 ≤ σ 29 1)) → pe_G m_M_close 2 [some (pe_r 29), some (pe_i p), some (pe_i n), some (pe_i x.1)] [] x.2 (pe_qv (fun σ' => pe_B σ' ∧ (∀ b, b ∉ [29, 30] → σ' b = σ b) ∧ (∀ j, j ∉ ([1] : List Int) → σ' 29 j = σ 29 j) ∧ (σ' 29 1 = σ 29 1 - n ∧ (∀ j, 0 ≤ σ' 30 j ∧ σ' 30 j ≤ 65535) ∧ (∀ j, 0 ≤ j → j < σ 29 1 - n → σ' 30 j ≠ 0)))) := by
    refine pe_loop (fun x : Int × pe_H => (300 - x.1).toNat) _ _ ?_
    intro x hI ih
    obtain ⟨k, τ⟩ := x
    dsimp only at hI ⊢
    obtain ⟨hB, hfr, hX⟩ := hI
    have v_29_1 : τ 29 1 = σ 29 1 := congrFun (hfr 29 (by decide)) 1
    obtain ⟨A30, N1, N2, hX⟩ := hX
    have hBt := hB
    refine pe_iload_n d_M_close_2 rfl ?_
    refine pe_iload_n d_M_close_3 rfl ?_
    refine pe_iadd d_M_close_4 ?_
    refine pe_aload_n d_M_close_5 rfl ?_
    refine pe_geti f_M_87 d_M_close_6 rfl rfl 1 rfl ?_
    refine pe_icmp_ge (t := 32) d_M_close_9 (by first | exact hB _ _ | exact hB0 _ _ | exact hBt _ _ | exact ⟨by omega, by omega⟩) (by first | exact hB _ _ | exact hB0 _ _ | exact hBt _ _ | exact ⟨by omega, by omega⟩) (fun h9 => ?_) (fun h9 => ?_)
    · skip
      refine pe_aload_n d_M_close_32 rfl ?_
      refine pe_dup d_M_close_33 ?_
      refine pe_geti f_M_87 d_M_close_34 rfl rfl 1 rfl ?_
      refine pe_iload_n d_M_close_37 rfl ?_
      refine pe_isub d_M_close_38 ?_
      refine pe_putiT f_M_87 g_11_1 d_M_close_39 rfl rfl 1 rfl hB (by first | exact hB _ _ | exact hB0 _ _ | exact hBt _ _ | exact ⟨by omega, by omega⟩) (fun σ39 hB e39 o39 f39 => ?_)
      try have u39_0 : σ39 29 1 = τ 29 1 := by first | exact o39 1 (by decide) | exact congrFun (f39 29 (by decide)) 1
      try have u39_1 : σ39 29 2 = τ 29 2 := by first | exact o39 2 (by decide) | exact congrFun (f39 29 (by decide)) 2
      try have u39_2 : σ39 29 3 = τ 29 3 := by first | exact o39 3 (by decide) | exact congrFun (f39 29 (by decide)) 3
      refine pe_rv d_M_close_42 ?_
      exact ⟨hB, (fun b hb => (f39 b (by simp at hb ⊢; try omega)).trans (hfr b (by simp at hb ⊢; try omega))), (fun j hj => (o39 j (by simp at hj ⊢; try omega)).trans (congrFun (hfr 29 (by decide)) j)), by omega, by rw [f39 30 (by decide)]; exact A30, fun j a b => by rw [f39 30 (by decide)]; exact N1 j a (by omega)⟩
    · skip
      refine pe_aload_n d_M_close_12 rfl ?_
      refine pe_getr f_M_7 d_M_close_13 rfl rfl ?_
      refine pe_iload_n d_M_close_16 rfl ?_
      refine pe_aload_n d_M_close_17 rfl ?_
      refine pe_getr f_M_7 d_M_close_18 rfl rfl ?_
      refine pe_iload_n d_M_close_21 rfl ?_
      refine pe_iload_n d_M_close_22 rfl ?_
      refine pe_iadd d_M_close_23 ?_
      refine pe_iald d_M_close_24 rfl (by omega) (by omega) ?_
      refine pe_iastT d_M_close_25 rfl (by omega) (by omega) hB (by first | exact hB _ _ | exact hB0 _ _ | exact hBt _ _ | exact ⟨by omega, by omega⟩) (fun σ25 hB e25 o25 f25 => ?_)
      try have u25_0 : σ25 29 1 = τ 29 1 := by first | exact o25 1 (by decide) | exact congrFun (f25 29 (by decide)) 1
      try have u25_1 : σ25 29 2 = τ 29 2 := by first | exact o25 2 (by decide) | exact congrFun (f25 29 (by decide)) 2
      try have u25_2 : σ25 29 3 = τ 29 3 := by first | exact o25 3 (by decide) | exact congrFun (f25 29 (by decide)) 3
      have A30 : (∀ j, 0 ≤ σ25 30 j ∧ σ25 30 j ≤ 65535) := pe_all_up e25 o25 A30 (by first | omega | exact A30 _ | assumption)
      have hlo : ∀ j, 0 ≤ j → j < k + 1 → σ25 30 j ≠ 0 := fun j a b => by
        by_cases e : j = k
        · rw [e, e25]; exact N2 (k + n) (by omega) (by omega)
        · rw [o25 j e]; exact N1 j a (by omega)
      have hhi : ∀ j, k + 1 + n ≤ j → j < σ 29 1 → σ25 30 j ≠ 0 := fun j a b => by rw [o25 j (by omega)]; exact N2 j (by omega) b
      refine pe_iinc d_M_close_26 rfl ?_
      refine pe_goto (t := 2) d_M_close_29 ?_
      exact ih (_, _) ⟨hB, (fun b hb => (f25 b (by simp at hb ⊢; try omega)).trans (hfr b (by simp at hb ⊢; try omega))), A30, hlo, hhi, by (try dsimp only); omega⟩ (by (try dsimp only); omega)
  refine pe_iload_n d_M_close_0 rfl ?_
  refine pe_istore_n d_M_close_1 ?_
  exact J2 (_, _) ⟨hB, (fun b hb => rfl), A30, fun j a b => N30 j a (by (try dsimp only at *); omega), fun j a b => N30 j (by (try dsimp only at *); omega) b, by (try dsimp only); omega⟩
theorem t_M_settle {σ : pe_H} {p : Int} (hB : pe_B σ) (hl : 0 ≤ σ 29 1 ∧ σ 29 1 ≤ 200) (hp : 0 ≤ p ∧ p ≤ σ 29 1) : pe_M m_M_settle [pe_r 29, pe_i p] σ (pe_qv (fun σ' => pe_B σ' ∧ (∀ b, b ∉ [29] → σ' b = σ b) ∧ (∀ j, j ∉ ([2] : List Int) → σ' 29 j = σ 29 j) ∧ ((0 ≤ σ' 29 2 ∧ σ' 29 2 ≤ σ 29 1) ∧ pe_bg (σ 30) (σ 29 1) (σ' 29 2)))) := by
  refine pe_in0 (lv := [some (pe_r 29), some (pe_i p)]) ?_
  have hB0 := hB
  have J5 : ∀ τ : pe_H, (pe_B τ ∧ (∀ b, b ∉ [29] → τ b = σ b) ∧ (∀ j, j ∉ ([2] : List Int) → τ 29 j = σ 29 j) ∧ (0 ≤ τ 29 2 ∧ τ 29 2 ≤ σ 29 1)) → pe_G m_M_settle 5 [some (pe_r 29), some (pe_i p)] [] τ (pe_qv (fun σ' => pe_B σ' ∧ (∀ b, b ∉ [29] → σ' b = σ b) ∧ (∀ j, j ∉ ([2] : List Int) → σ' 29 j = σ 29 j) ∧ ((0 ≤ σ' 29 2 ∧ σ' 29 2 ≤ σ 29 1) ∧ pe_bg (σ 30) (σ 29 1) (σ' 29 2)))) := by
    refine pe_loop (fun τ : pe_H => (300 - τ 29 2).toNat) _ _ ?_
    intro τ hI ih
    obtain ⟨hB, hfr, hor, hX⟩ := hI
    have w1 : τ 29 1 = σ 29 1 := hor 1 (by decide)
    have hBt := hB
    refine pe_aload_n d_M_settle_5 rfl ?_
    refine pe_aload_n d_M_settle_6 rfl ?_
    refine pe_geti f_M_117 d_M_settle_7 rfl rfl 2 rfl ?_
    refine pe_v1p d_M_settle_10 c_M_94 i_M_begins s_M_begins rfl rfl (t_M_begins hB (by omega) (by omega)) (fun z10 hz10 => ?_)
    refine pe_if_ne (t := 29) d_M_settle_13 (by first | exact hB _ _ | exact hB0 _ _ | exact hBt _ _ | exact ⟨by omega, by omega⟩) (fun h13 => ?_) (fun h13 => ?_)
    · skip
      have yb : pe_bg (τ 30) (τ 29 1) (τ 29 2) := hz10.2.mp (by omega)
      refine pe_rv d_M_settle_29 ?_
      exact ⟨hB, (fun b hb => hfr b hb), (fun j hj => hor j hj), hX, by rw [hfr 30 (by decide), w1] at yb; exact yb⟩
    · skip
      have nb : ¬ pe_bg (τ 30) (τ 29 1) (τ 29 2) := fun h => by have := hz10.2.mpr h; omega
      have n1 : ¬ τ 29 1 ≤ τ 29 2 := fun h => nb (Or.inl h)
      refine pe_aload_n d_M_settle_16 rfl ?_
      refine pe_dup d_M_settle_17 ?_
      refine pe_geti f_M_117 d_M_settle_18 rfl rfl 2 rfl ?_
      refine pe_iconst d_M_settle_21 ?_
      refine pe_iadd d_M_settle_22 ?_
      refine pe_putiT f_M_117 g_11_2 d_M_settle_23 rfl rfl 2 rfl hB (by first | exact hB _ _ | exact hB0 _ _ | exact hBt _ _ | exact ⟨by omega, by omega⟩) (fun σ23 hB e23 o23 f23 => ?_)
      try have u23_0 : σ23 29 1 = τ 29 1 := by first | exact o23 1 (by decide) | exact congrFun (f23 29 (by decide)) 1
      try have u23_1 : σ23 29 2 = τ 29 2 := by first | exact o23 2 (by decide) | exact congrFun (f23 29 (by decide)) 2
      try have u23_2 : σ23 29 3 = τ 29 3 := by first | exact o23 3 (by decide) | exact congrFun (f23 29 (by decide)) 3
      refine pe_goto (t := 5) d_M_settle_26 ?_
      exact ih _ ⟨hB, (fun b hb => (f23 b (by simp at hb ⊢; try omega)).trans (hfr b hb)), (fun j hj => (o23 j (by simp at hj ⊢; try omega)).trans (hor j hj)), by omega⟩ (by omega)
  refine pe_aload_n d_M_settle_0 rfl ?_
  refine pe_iload_n d_M_settle_1 rfl ?_
  refine pe_putiT f_M_117 g_11_2 d_M_settle_2 rfl rfl 2 rfl hB (by first | exact hB _ _ | exact hB0 _ _ | exact hBt _ _ | exact ⟨by omega, by omega⟩) (fun σ2 hB e2 o2 f2 => ?_)
  try have u2_0 : σ2 29 1 = σ 29 1 := by first | exact o2 1 (by decide) | exact congrFun (f2 29 (by decide)) 1
  try have u2_1 : σ2 29 2 = σ 29 2 := by first | exact o2 2 (by decide) | exact congrFun (f2 29 (by decide)) 2
  try have u2_2 : σ2 29 3 = σ 29 3 := by first | exact o2 3 (by decide) | exact congrFun (f2 29 (by decide)) 3
  exact J5 _ ⟨hB, (fun b hb => (f2 b (by simp at hb ⊢; try omega)).trans (rfl)), (fun j hj => (o2 j (by simp at hj ⊢; try omega)).trans (rfl)), by omega⟩
