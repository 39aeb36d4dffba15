theorem pe_mc_push {p c w u : Int → Int} {m L L' : Int} (hm : 0 ≤ m) (h : pe_mc p c w u m.toNat L) (hL : 0 ≤ L' ∧ L' ≤ 200) (h0 : 0 ≤ p m ∧ 0 ≤ c m ∧ 0 ≤ w m ∧ 0 ≤ u m) (h1 : p m + c m ≤ L') (h2 : u m ≤ L' - c m + w m) (h3 : L' - c m + w m = L) : pe_mc p c w u (m + 1).toNat L' := by
  have e : (m + 1).toNat = m.toNat + 1 := by omega
  have e2 : ((m.toNat : Nat) : Int) = m := by omega
  rw [e]
  unfold pe_mc
  rw [e2]
  exact ⟨hL, h0, h1, h2, by rw [h3]; exact h⟩
theorem pe_mc_pop {p c w u : Int → Int} {m L : Int} (hm : 0 < m) (h : pe_mc p c w u m.toNat L) : (0 ≤ L ∧ L ≤ 200) ∧ (0 ≤ p (m - 1) ∧ 0 ≤ c (m - 1) ∧ 0 ≤ w (m - 1) ∧ 0 ≤ u (m - 1)) ∧ p (m - 1) + c (m - 1) ≤ L ∧ u (m - 1) ≤ L - c (m - 1) + w (m - 1) ∧ pe_mc p c w u (m - 1).toNat (L - c (m - 1) + w (m - 1)) := by
  have e : m.toNat = (m - 1).toNat + 1 := by omega
  have e2 : (((m - 1).toNat : Nat) : Int) = m - 1 := by omega
  rw [e] at h
  unfold pe_mc at h
  rw [e2] at h
  exact h
theorem t_M_note {σ : pe_H} {p i o : Int} (hB : pe_B σ) (hl : 0 ≤ σ 29 1 ∧ σ 29 1 ≤ 200) (A30 : (∀ j, 0 ≤ σ 30 j ∧ σ 30 j ≤ 65535)) (A36 : (∀ j, 0 ≤ σ 36 j ∧ σ 36 j ≤ 65535)) (hcu : 0 ≤ σ 29 2 ∧ σ 29 2 ≤ σ 29 1) (hcg : 0 ≤ σ 29 7 ∧ σ 29 7 ≤ 12) (hch : pe_mc (σ 32) (σ 33) (σ 34) (σ 35) (σ 29 7).toNat (σ 29 1)) (hp : 0 ≤ p ∧ 0 ≤ i ∧ 0 ≤ o ∧ p + o ≤ σ 29 1 ∧ σ 29 1 + i - o ≤ 200) (N30 : (∀ j, 0 ≤ j → j < σ 29 1 → σ 30 j ≠ 0)) (N36 : (∀ n j, 0 ≤ n → n < σ 29 7 → 0 ≤ j → j < σ 34 n → j < 200 → σ 36 (200 * n + j) ≠ 0)) : pe_M m_M_note [pe_r 29, pe_i p, pe_i i, pe_i o] σ (pe_qv (fun σ' => pe_B σ' ∧ (∀ b, b ∉ [29, 32, 33, 34, 35, 36] → σ' b = σ b) ∧ (∀ j, j ∉ ([3, 7] : List Int) → σ' 29 j = σ 29 j) ∧ (σ' 29 3 = -1 ∧ (1 ≤ σ' 29 7 ∧ σ' 29 7 ≤ 12) ∧ (∀ j, 0 ≤ σ' 36 j ∧ σ' 36 j ≤ 65535) ∧ pe_mc (σ' 32) (σ' 33) (σ' 34) (σ' 35) (σ' 29 7).toNat (σ 29 1 + i - o) ∧ (∀ n j, 0 ≤ n → n < σ' 29 7 → 0 ≤ j → j < σ' 34 n → j < 200 → σ' 36 (200 * n + j) ≠ 0)))) := by
  refine pe_in0 (lv := [some (pe_r 29), some (pe_i p), some (pe_i i), some (pe_i o), none]) ?_
  have hB0 := hB
  have J59 : ∀ x : Int × pe_H, (pe_B x.2 ∧ (∀ b, b ∉ [29, 32, 33, 34, 35, 36] → x.2 b = σ b) ∧ (∀ j, j ∉ ([7] : List Int) → x.2 29 j = σ 29 j) ∧ (0 ≤ x.2 29 7 ∧ x.2 29 7 ≤ 11) ∧ (∀ j, 0 ≤ x.2 36 j ∧ x.2 36 j ≤ 65535) ∧ pe_mc (x.2 32) (x.2 33) (x.2 34) (x.2 35) (x.2 29 7).toNat (σ 29 1) ∧ (x.2 32 (x.2 29 7) = p ∧ x.2 33 (x.2 29 7) = i ∧ x.2 34 (x.2 29 7) = o ∧ x.2 35 (x.2 29 7) = σ 29 2) ∧ (∀ n j, 0 ≤ n → n < x.2 29 7 → 0 ≤ j → j < x.2 34 n → j < 200 → x.2 36 (200 * n + j) ≠ 0) ∧ (∀ j, 0 ≤ j → j < x.1 → x.2 36 (200 * x.2 29 7 + j) ≠ 0) ∧ (0 ≤ x.1 ∧ x.1 ≤ o)) → pe_G m_M_note 59 [some (pe_r 29), some (pe_i p), some (pe_i i), some (pe_i o), some (pe_i x.1)] [] x.2 (pe_qv (fun σ' => pe_B σ' ∧ (∀ b, b ∉ [29, 32, 33, 34, 35, 36] → σ' b = σ b) ∧ (∀ j, j ∉ ([3, 7] : List Int) → σ' 29 j = σ 29 j) ∧ (σ' 29 3 = -1 ∧ (1 ≤ σ' 29 7 ∧ σ' 29 7 ≤ 12) ∧ (∀ j, 0 ≤ σ' 36 j ∧ σ' 36 j ≤ 65535) ∧ pe_mc (σ' 32) (σ' 33) (σ' 34) (σ' 35) (σ' 29 7).toNat (σ 29 1 + i - o) ∧ (∀ n j, 0 ≤ n → n < σ' 29 7 → 0 ≤ j → j < σ' 34 n → j < 200 → σ' 36 (200 * n + j) ≠ 0)))) := by
    refine pe_loop (fun x : Int × pe_H => (300 - x.1).toNat) _ _ ?_
    intro x hI ih
    obtain ⟨k, τ⟩ := x
    dsimp only at hI ⊢
    obtain ⟨hB, hfr, hX⟩ := hI
    obtain ⟨hor, h7, A36, hch, hent, N36, M36, hX⟩ := hX
    have w1 : τ 29 1 = σ 29 1 := hor 1 (by decide)
    have w2 : τ 29 2 = σ 29 2 := hor 2 (by decide)
    have w3 : τ 29 3 = σ 29 3 := hor 3 (by decide)
    have w30 : τ 30 = σ 30 := hfr 30 (by decide)
    have hBt := hB
    refine pe_iload d_M_note_59 rfl ?_
    refine pe_iload_n d_M_note_61 rfl ?_
    refine pe_icmp_ge (t := 96) d_M_note_62 (by first | exact hB _ _ | exact hB0 _ _ | exact hBt _ _ | exact ⟨by omega, by omega⟩) (by first | exact hB _ _ | exact hB0 _ _ | exact hBt _ _ | exact ⟨by omega, by omega⟩) (fun h62 => ?_) (fun h62 => ?_)
    · skip
      refine pe_aload_n d_M_note_96 rfl ?_
      refine pe_dup d_M_note_97 ?_
      refine pe_geti f_M_111 d_M_note_98 rfl rfl 7 rfl ?_
      refine pe_iconst d_M_note_101 ?_
      refine pe_iadd d_M_note_102 ?_
      refine pe_putiT f_M_111 g_11_7 d_M_note_103 rfl rfl 7 rfl hB (by first | exact hB _ _ | exact hB0 _ _ | exact hBt _ _ | exact ⟨by omega, by omega⟩) (fun σ103 hB e103 o103 f103 => ?_)
      try have u103_0 : σ103 29 1 = τ 29 1 := by first | exact o103 1 (by decide) | exact congrFun (f103 29 (by decide)) 1
      try have u103_1 : σ103 29 2 = τ 29 2 := by first | exact o103 2 (by decide) | exact congrFun (f103 29 (by decide)) 2
      try have u103_2 : σ103 29 3 = τ 29 3 := by first | exact o103 3 (by decide) | exact congrFun (f103 29 (by decide)) 3
      try have u103_3 : σ103 29 7 = τ 29 7 := by first | exact o103 7 (by decide) | exact congrFun (f103 29 (by decide)) 7
      refine pe_aload_n d_M_note_106 rfl ?_
      refine pe_iconst d_M_note_107 ?_
      refine pe_putiT f_M_13 g_11_3 d_M_note_108 rfl rfl 3 rfl hB (by first | exact hB _ _ | exact hB0 _ _ | exact hBt _ _ | exact ⟨by omega, by omega⟩) (fun σ108 hB e108 o108 f108 => ?_)
      try have u108_0 : σ108 29 1 = σ103 29 1 := by first | exact o108 1 (by decide) | exact congrFun (f108 29 (by decide)) 1
      try have u108_1 : σ108 29 2 = σ103 29 2 := by first | exact o108 2 (by decide) | exact congrFun (f108 29 (by decide)) 2
      try have u108_2 : σ108 29 3 = σ103 29 3 := by first | exact o108 3 (by decide) | exact congrFun (f108 29 (by decide)) 3
      try have u108_3 : σ108 29 7 = σ103 29 7 := by first | exact o108 7 (by decide) | exact congrFun (f108 29 (by decide)) 7
      refine pe_rv d_M_note_111 ?_
      refine ⟨hB, (fun b hb => (f108 b (by simp at hb ⊢; try omega)).trans ((f103 b (by simp at hb ⊢; try omega)).trans (hfr b (by simp at hb ⊢; try omega)))), (fun j hj => (o108 j (by simp at hj ⊢; try omega)).trans ((o103 j (by simp at hj ⊢; try omega)).trans (hor j (by simp at hj ⊢; try omega)))), by omega, by omega, by rw [f108 36 (by decide), f103 36 (by decide)]; exact A36, ?_, ?_⟩
      · rw [f108 32 (by decide), f103 32 (by decide), f108 33 (by decide), f103 33 (by decide), f108 34 (by decide), f103 34 (by decide), f108 35 (by decide), f103 35 (by decide), show (σ108 29 7).toNat = (τ 29 7 + 1).toNat by omega]
        exact pe_mc_push (by omega) hch (by omega) (by omega) (by omega) (by omega) (by omega)
      · intro n j a b c d e
        rw [f108 34 (by decide), f103 34 (by decide)] at d
        rw [f108 36 (by decide), f103 36 (by decide)]
        by_cases q : n = τ 29 7
        · rw [q]; exact M36 j c (by rw [q, hent.2.2.1] at d; omega)
        · exact N36 n j a (by omega) c d e
    · skip
      refine pe_aload_n d_M_note_65 rfl ?_
      refine pe_getr f_M_35 d_M_note_66 rfl rfl ?_
      refine pe_sipush d_M_note_69 ?_
      refine pe_aload_n d_M_note_72 rfl ?_
      refine pe_geti f_M_111 d_M_note_73 rfl rfl 7 rfl ?_
      refine pe_imul d_M_note_76 ?_
      refine pe_iload d_M_note_77 rfl ?_
      refine pe_iadd d_M_note_79 ?_
      refine pe_aload_n d_M_note_80 rfl ?_
      refine pe_getr f_M_7 d_M_note_81 rfl rfl ?_
      refine pe_iload_n d_M_note_84 rfl ?_
      refine pe_iload d_M_note_85 rfl ?_
      refine pe_iadd d_M_note_87 ?_
      refine pe_iald d_M_note_88 rfl (by omega) (by omega) ?_
      have at1 := A30 (p + k)
      rw [← w30] at at1
      refine pe_iastT d_M_note_89 rfl (by omega) (by omega) hB (by first | exact hB _ _ | exact hB0 _ _ | exact hBt _ _ | exact ⟨by omega, by omega⟩) (fun σ89 hB e89 o89 f89 => ?_)
      try have u89_0 : σ89 29 1 = τ 29 1 := by first | exact o89 1 (by decide) | exact congrFun (f89 29 (by decide)) 1
      try have u89_1 : σ89 29 2 = τ 29 2 := by first | exact o89 2 (by decide) | exact congrFun (f89 29 (by decide)) 2
      try have u89_2 : σ89 29 3 = τ 29 3 := by first | exact o89 3 (by decide) | exact congrFun (f89 29 (by decide)) 3
      try have u89_3 : σ89 29 7 = τ 29 7 := by first | exact o89 7 (by decide) | exact congrFun (f89 29 (by decide)) 7
      have A36 : (∀ j, 0 ≤ σ89 36 j ∧ σ89 36 j ≤ 65535) := pe_all_up e89 o89 A36 (by first | omega | exact A36 _ | assumption)
      have z7 : σ89 29 7 = τ 29 7 := by omega
      have hent : (σ89 32 (σ89 29 7) = p ∧ σ89 33 (σ89 29 7) = i ∧ σ89 34 (σ89 29 7) = o ∧ σ89 35 (σ89 29 7) = σ 29 2) := by rw [z7, f89 32 (by decide), f89 33 (by decide), f89 34 (by decide), f89 35 (by decide)]; exact hent
      have hch : pe_mc (σ89 32) (σ89 33) (σ89 34) (σ89 35) (σ89 29 7).toNat (σ 29 1) := by rw [z7, f89 32 (by decide), f89 33 (by decide), f89 34 (by decide), f89 35 (by decide)]; exact hch
      have N36 : (∀ n j, 0 ≤ n → n < σ89 29 7 → 0 ≤ j → j < σ89 34 n → j < 200 → σ89 36 (200 * n + j) ≠ 0) := fun n j a b c d e => by
        rw [o89 (200 * n + j) (by omega)]
        rw [f89 34 (by decide)] at d
        exact N36 n j a (by omega) c d e
      have M36 : ∀ j, 0 ≤ j → j < k + 1 → σ89 36 (200 * σ89 29 7 + j) ≠ 0 := fun j a b => by
        rw [z7]
        by_cases e : j = k
        · rw [e, e89, w30]; exact N30 (p + k) (by omega) (by omega)
        · rw [o89 _ (by omega)]; exact M36 j a (by omega)
      refine pe_iinc d_M_note_90 rfl ?_
      refine pe_goto (t := 59) d_M_note_93 ?_
      exact ih (_, _) ⟨hB, (fun b hb => (f89 b (by simp at hb ⊢; try omega)).trans (hfr b (by simp at hb ⊢; try omega))), (fun j hj => (congrFun (f89 29 (by decide)) j).trans (hor j (by simp at hj ⊢; try omega))), by (try dsimp only); omega, A36, hch, hent, N36, M36, by (try dsimp only); omega⟩ (by (try dsimp only); omega)
  have J13 : ∀ τ : pe_H, (pe_B τ ∧ (∀ b, b ∉ [29, 32, 33, 34, 35, 36] → τ b = σ b) ∧ (∀ j, j ∉ ([7] : List Int) → τ 29 j = σ 29 j) ∧ (0 ≤ τ 29 7 ∧ τ 29 7 ≤ 11) ∧ (∀ j, 0 ≤ τ 36 j ∧ τ 36 j ≤ 65535) ∧ pe_mc (τ 32) (τ 33) (τ 34) (τ 35) (τ 29 7).toNat (σ 29 1) ∧ (∀ n j, 0 ≤ n → n < τ 29 7 → 0 ≤ j → j < τ 34 n → j < 200 → τ 36 (200 * n + j) ≠ 0)) → pe_G m_M_note 13 [some (pe_r 29), some (pe_i p), some (pe_i i), some (pe_i o), none] [] τ (pe_qv (fun σ' => pe_B σ' ∧ (∀ b, b ∉ [29, 32, 33, 34, 35, 36] → σ' b = σ b) ∧ (∀ j, j ∉ ([3, 7] : List Int) → σ' 29 j = σ 29 j) ∧ (σ' 29 3 = -1 ∧ (1 ≤ σ' 29 7 ∧ σ' 29 7 ≤ 12) ∧ (∀ j, 0 ≤ σ' 36 j ∧ σ' 36 j ≤ 65535) ∧ pe_mc (σ' 32) (σ' 33) (σ' 34) (σ' 35) (σ' 29 7).toNat (σ 29 1 + i - o) ∧ (∀ n j, 0 ≤ n → n < σ' 29 7 → 0 ≤ j → j < σ' 34 n → j < 200 → σ' 36 (200 * n + j) ≠ 0)))) := by
    intro τ hI
    obtain ⟨hB, hfr, hor, h7, A36, hch, N36⟩ := hI
    have w1 : τ 29 1 = σ 29 1 := hor 1 (by decide)
    have w2 : τ 29 2 = σ 29 2 := hor 2 (by decide)
    have w3 : τ 29 3 = σ 29 3 := hor 3 (by decide)
    have hBt := hB
    refine pe_aload_n d_M_note_13 rfl ?_
    refine pe_getr f_M_23 d_M_note_14 rfl rfl ?_
    refine pe_aload_n d_M_note_17 rfl ?_
    refine pe_geti f_M_111 d_M_note_18 rfl rfl 7 rfl ?_
    refine pe_iload_n d_M_note_21 rfl ?_
    refine pe_iastT d_M_note_22 rfl (by omega) (by omega) hB (by first | exact hB _ _ | exact hB0 _ _ | exact hBt _ _ | exact ⟨by omega, by omega⟩) (fun σ22 hB e22 o22 f22 => ?_)
    try have u22_0 : σ22 29 1 = τ 29 1 := by first | exact o22 1 (by decide) | exact congrFun (f22 29 (by decide)) 1
    try have u22_1 : σ22 29 2 = τ 29 2 := by first | exact o22 2 (by decide) | exact congrFun (f22 29 (by decide)) 2
    try have u22_2 : σ22 29 3 = τ 29 3 := by first | exact o22 3 (by decide) | exact congrFun (f22 29 (by decide)) 3
    try have u22_3 : σ22 29 7 = τ 29 7 := by first | exact o22 7 (by decide) | exact congrFun (f22 29 (by decide)) 7
    refine pe_aload_n d_M_note_23 rfl ?_
    refine pe_getr f_M_26 d_M_note_24 rfl rfl ?_
    refine pe_aload_n d_M_note_27 rfl ?_
    refine pe_geti f_M_111 d_M_note_28 rfl rfl 7 rfl ?_
    refine pe_iload_n d_M_note_31 rfl ?_
    refine pe_iastT d_M_note_32 rfl (by omega) (by omega) hB (by first | exact hB _ _ | exact hB0 _ _ | exact hBt _ _ | exact ⟨by omega, by omega⟩) (fun σ32 hB e32 o32 f32 => ?_)
    try have u32_0 : σ32 29 1 = σ22 29 1 := by first | exact o32 1 (by decide) | exact congrFun (f32 29 (by decide)) 1
    try have u32_1 : σ32 29 2 = σ22 29 2 := by first | exact o32 2 (by decide) | exact congrFun (f32 29 (by decide)) 2
    try have u32_2 : σ32 29 3 = σ22 29 3 := by first | exact o32 3 (by decide) | exact congrFun (f32 29 (by decide)) 3
    try have u32_3 : σ32 29 7 = σ22 29 7 := by first | exact o32 7 (by decide) | exact congrFun (f32 29 (by decide)) 7
    refine pe_aload_n d_M_note_33 rfl ?_
    refine pe_getr f_M_29 d_M_note_34 rfl rfl ?_
    refine pe_aload_n d_M_note_37 rfl ?_
    refine pe_geti f_M_111 d_M_note_38 rfl rfl 7 rfl ?_
    refine pe_iload_n d_M_note_41 rfl ?_
    refine pe_iastT d_M_note_42 rfl (by omega) (by omega) hB (by first | exact hB _ _ | exact hB0 _ _ | exact hBt _ _ | exact ⟨by omega, by omega⟩) (fun σ42 hB e42 o42 f42 => ?_)
    try have u42_0 : σ42 29 1 = σ32 29 1 := by first | exact o42 1 (by decide) | exact congrFun (f42 29 (by decide)) 1
    try have u42_1 : σ42 29 2 = σ32 29 2 := by first | exact o42 2 (by decide) | exact congrFun (f42 29 (by decide)) 2
    try have u42_2 : σ42 29 3 = σ32 29 3 := by first | exact o42 3 (by decide) | exact congrFun (f42 29 (by decide)) 3
    try have u42_3 : σ42 29 7 = σ32 29 7 := by first | exact o42 7 (by decide) | exact congrFun (f42 29 (by decide)) 7
    refine pe_aload_n d_M_note_43 rfl ?_
    refine pe_getr f_M_32 d_M_note_44 rfl rfl ?_
    refine pe_aload_n d_M_note_47 rfl ?_
    refine pe_geti f_M_111 d_M_note_48 rfl rfl 7 rfl ?_
    refine pe_aload_n d_M_note_51 rfl ?_
    refine pe_geti f_M_117 d_M_note_52 rfl rfl 2 rfl ?_
    refine pe_iastT d_M_note_55 rfl (by omega) (by omega) hB (by first | exact hB _ _ | exact hB0 _ _ | exact hBt _ _ | exact ⟨by omega, by omega⟩) (fun σ55 hB e55 o55 f55 => ?_)
    try have u55_0 : σ55 29 1 = σ42 29 1 := by first | exact o55 1 (by decide) | exact congrFun (f55 29 (by decide)) 1
    try have u55_1 : σ55 29 2 = σ42 29 2 := by first | exact o55 2 (by decide) | exact congrFun (f55 29 (by decide)) 2
    try have u55_2 : σ55 29 3 = σ42 29 3 := by first | exact o55 3 (by decide) | exact congrFun (f55 29 (by decide)) 3
    try have u55_3 : σ55 29 7 = σ42 29 7 := by first | exact o55 7 (by decide) | exact congrFun (f55 29 (by decide)) 7
    have A36 : (∀ j, 0 ≤ σ55 36 j ∧ σ55 36 j ≤ 65535) := by rw [f55 36 (by decide), f42 36 (by decide), f32 36 (by decide), f22 36 (by decide)]; exact A36
    have z7 : σ55 29 7 = τ 29 7 := by omega
    have y32 : σ55 32 = σ22 32 := (f55 32 (by decide)).trans ((f42 32 (by decide)).trans (f32 32 (by decide)))
    have y33 : σ55 33 = σ32 33 := (f55 33 (by decide)).trans (f42 33 (by decide))
    have y34 : σ55 34 = σ42 34 := f55 34 (by decide)
    have x33 : σ22 33 = τ 33 := f22 33 (by decide)
    have x34 : σ32 34 = τ 34 := (f32 34 (by decide)).trans (f22 34 (by decide))
    have x35 : σ42 35 = τ 35 := (f42 35 (by decide)).trans ((f32 35 (by decide)).trans (f22 35 (by decide)))
    have hent : (σ55 32 (σ55 29 7) = p ∧ σ55 33 (σ55 29 7) = i ∧ σ55 34 (σ55 29 7) = o ∧ σ55 35 (σ55 29 7) = σ 29 2) := by
      refine ⟨?_, ?_, ?_, ?_⟩
      · rw [y32, show σ55 29 7 = τ 29 7 by omega]; exact e22
      · rw [y33, show σ55 29 7 = σ22 29 7 by omega]; exact e32
      · rw [y34, show σ55 29 7 = σ32 29 7 by omega]; exact e42
      · rw [show σ55 29 7 = σ42 29 7 by omega, e55]; omega
    have hch : pe_mc (σ55 32) (σ55 33) (σ55 34) (σ55 35) (σ55 29 7).toNat (σ 29 1) := by
      rw [show (σ55 29 7).toNat = (τ 29 7).toNat by omega]
      refine pe_mc_congr _ _ (fun j h1 h2 => ⟨?_, ?_, ?_, ?_⟩) hch
      · rw [y32]; exact o22 j (by omega)
      · rw [y33, ← x33]; exact o32 j (by omega)
      · rw [y34, ← x34]; exact o42 j (by omega)
      · rw [← x35]; exact o55 j (by omega)
    have N36 : (∀ n j, 0 ≤ n → n < σ55 29 7 → 0 ≤ j → j < σ55 34 n → j < 200 → σ55 36 (200 * n + j) ≠ 0) := fun n j a b c d e => by
      rw [f55 36 (by decide), f42 36 (by decide), f32 36 (by decide), f22 36 (by decide)]
      rw [y34, o42 n (by omega), x34] at d
      exact N36 n j a (by omega) c d e
    refine pe_iconst d_M_note_56 ?_
    refine pe_istore d_M_note_57 ?_
    exact J59 (_, _) ⟨hB, (fun b hb => (f55 b (by simp at hb ⊢; try omega)).trans ((f42 b (by simp at hb ⊢; try omega)).trans ((f32 b (by simp at hb ⊢; try omega)).trans ((f22 b (by simp at hb ⊢; try omega)).trans (hfr b (by simp at hb ⊢; try omega)))))), (fun j hj => (congrFun (f55 29 (by decide)) j).trans ((congrFun (f42 29 (by decide)) j).trans ((congrFun (f32 29 (by decide)) j).trans ((congrFun (f22 29 (by decide)) j).trans (hor j (by simp at hj ⊢; try omega)))))), by (try dsimp only); omega, A36, hch, hent, N36, fun j a b => by (try dsimp only at *); omega, by (try dsimp only); omega⟩
  refine pe_aload_n d_M_note_0 rfl ?_
  refine pe_geti f_M_111 d_M_note_1 rfl rfl 7 rfl ?_
  refine pe_bipush d_M_note_4 ?_
  refine pe_icmp_ne (t := 13) d_M_note_6 (by first | exact hB _ _ | exact hB0 _ _ | exact hBt _ _ | exact ⟨by omega, by omega⟩) (by first | exact hB _ _ | exact hB0 _ _ | exact hBt _ _ | exact ⟨by omega, by omega⟩) (fun h6 => ?_) (fun h6 => ?_)
  · skip
    first
     | exact J13 _ ⟨hB, (fun b hb => rfl), (fun j hj => rfl), by omega, x10.2.1.1, by rw [x10.1]; exact pe_mc_shift 11 _ (fun j a b => ⟨x10.2.2.1 j a (by omega), x10.2.2.2.1 j a (by omega), x10.2.2.2.2.1 j a (by omega), x10.2.2.2.2.2 j a (by omega)⟩) (by have q := hch; rw [show (σ 29 7).toNat = 11 + 1 by omega] at q; exact q), fun n j a b c d e => by rw [x10.2.1.2 (200 * n + j) (by omega) (by omega), show 200 * n + j + 200 = 200 * (n + 1) + j by omega]; exact N36 (n + 1) j (by omega) (by omega) c (by rw [← x10.2.2.2.2.1 n a (by omega)]; exact d) e⟩
     | exact J13 _ ⟨hB, (fun b hb => rfl), (fun j hj => rfl), by omega, A36, hch, N36⟩
  · skip
    refine pe_aload_n d_M_note_9 rfl ?_
    refine pe_v0v d_M_note_10 c_M_114 i_M_forgetFirst s_M_forgetFirst rfl rfl (t_M_forgetFirst hB A36) (fun σ10 hz10 => ?_)
    obtain ⟨hB, f10, o10, x10⟩ := hz10
    try have u10_0 : σ10 29 1 = σ 29 1 := by first | exact o10 1 (by decide) | exact congrFun (f10 29 (by decide)) 1
    try have u10_1 : σ10 29 2 = σ 29 2 := by first | exact o10 2 (by decide) | exact congrFun (f10 29 (by decide)) 2
    try have u10_2 : σ10 29 3 = σ 29 3 := by first | exact o10 3 (by decide) | exact congrFun (f10 29 (by decide)) 3
    try have u10_3 : σ10 29 7 = σ 29 7 := by first | exact o10 7 (by decide) | exact congrFun (f10 29 (by decide)) 7
    first
     | exact J13 _ ⟨hB, (fun b hb => (f10 b (by simp at hb ⊢; try omega)).trans (rfl)), (fun j hj => (o10 j (by simp at hj ⊢; try omega)).trans (rfl)), by omega, x10.2.1.1, by rw [x10.1]; exact pe_mc_shift 11 _ (fun j a b => ⟨x10.2.2.1 j a (by omega), x10.2.2.2.1 j a (by omega), x10.2.2.2.2.1 j a (by omega), x10.2.2.2.2.2 j a (by omega)⟩) (by have q := hch; rw [show (σ 29 7).toNat = 11 + 1 by omega] at q; exact q), fun n j a b c d e => by rw [x10.2.1.2 (200 * n + j) (by omega) (by omega), show 200 * n + j + 200 = 200 * (n + 1) + j by omega]; exact N36 (n + 1) j (by omega) (by omega) c (by rw [← x10.2.2.2.2.1 n a (by omega)]; exact d) e⟩
     | exact J13 _ ⟨hB, (fun b hb => (f10 b (by simp at hb ⊢; try omega)).trans (rfl)), (fun j hj => (o10 j (by simp at hj ⊢; try omega)).trans (rfl)), by omega, A36, hch, N36⟩
