/-- no 0 among what the reference keeps -/
def pe_NZ (m t k l w : Int → Int) : Prop := (∀ j, 0 ≤ j → j < m 1 → t j ≠ 0) ∧ (∀ j, 0 ≤ j → j < m 5 → k j ≠ 0) ∧ (∀ n j, 0 ≤ n → n < m 7 → 0 ≤ j → j < w n → j < 200 → l (200 * n + j) ≠ 0)
/-- the reference's text, clip and changes between two keys -/
def pe_ME (m t k l p c w u : Int → Int) : Prop := (0 ≤ m 1 ∧ m 1 ≤ 200) ∧ (∀ j, 0 ≤ t j ∧ t j ≤ 65535) ∧ (∀ j, 0 ≤ k j ∧ k j ≤ 65535) ∧ (∀ j, 0 ≤ l j ∧ l j ≤ 65535) ∧ ((0 ≤ m 2 ∧ m 2 ≤ m 1) ∧ pe_bg t (m 1) (m 2)) ∧ (-1 ≤ m 3 ∧ m 3 ≤ m 1) ∧ (0 ≤ m 5 ∧ m 5 ≤ 200) ∧ (0 ≤ m 7 ∧ m 7 ≤ 12) ∧ pe_mc p c w u (m 7).toNat (m 1) ∧ pe_NZ m t k l w
abbrev pe_MEs (σ : pe_H) : Prop := pe_ME (σ 29) (σ 30) (σ 31) (σ 36) (σ 32) (σ 33) (σ 34) (σ 35)
theorem pe_ME_to {m t k l p c w u m' t' k' l' p' c' w' u' : Int → Int} (q : pe_ME m t k l p c w u) (e1 : m' 1 = m 1) (e2 : m' 2 = m 2) (e3 : m' 3 = m 3) (e5 : m' 5 = m 5) (e7 : m' 7 = m 7) (a1 : t' = t) (a2 : k' = k) (a3 : l' = l) (a4 : p' = p) (a5 : c' = c) (a6 : w' = w) (a7 : u' = u) : pe_ME m' t' k' l' p' c' w' u' := by
  subst a1; subst a2; subst a3; subst a4; subst a5; subst a6; subst a7
  unfold pe_ME pe_NZ at q ⊢
  rw [e1, e2, e3, e5, e7]
  exact q
theorem t_M_insertOne {σ : pe_H} {c : Int} (hB : pe_B σ) (hM : pe_MEs σ) (hc : 1 ≤ c ∧ c ≤ 65535) : pe_M m_M_insertOne [pe_r 29, pe_i c] σ (pe_qv (fun σ' => pe_B σ' ∧ (∀ b, b ∉ [29, 30, 31, 32, 33, 34, 35, 36] → σ' b = σ b) ∧ (∀ j, j ∉ ([1, 2, 3, 5, 7] : List Int) → σ' 29 j = σ 29 j) ∧ pe_MEs σ')) := by
  refine pe_in0 (lv := [some (pe_r 29), some (pe_i c)]) ?_
  have hB0 := hB
  have hM0 := hM
  obtain ⟨hl, A30, A31, A36, ⟨hcu, hbg⟩, hma, hcl, hcg, hch, N30, N31, N36⟩ := hM
  refine pe_aload_n d_M_insertOne_0 rfl ?_
  refine pe_geti f_M_87 d_M_insertOne_1 rfl rfl 1 rfl ?_
  refine pe_sipush d_M_insertOne_4 ?_
  refine pe_icmp_ne (t := 11) d_M_insertOne_7 (by first | exact hB _ _ | exact hB0 _ _ | exact hBt _ _ | exact ⟨by omega, by omega⟩) (by first | exact hB _ _ | exact hB0 _ _ | exact hBt _ _ | exact ⟨by omega, by omega⟩) (fun h7 => ?_) (fun h7 => ?_)
  · skip
    refine pe_aload_n d_M_insertOne_11 rfl ?_
    refine pe_aload_n d_M_insertOne_12 rfl ?_
    refine pe_geti f_M_117 d_M_insertOne_13 rfl rfl 2 rfl ?_
    refine pe_iconst d_M_insertOne_16 ?_
    refine pe_iconst d_M_insertOne_17 ?_
    refine pe_v3v d_M_insertOne_18 c_M_120 i_M_note s_M_note rfl rfl (t_M_note hB (by omega) A30 A36 (by omega) (by omega) hch (by omega) N30 N36) (fun σ18 hz18 => ?_)
    obtain ⟨hB, f18, o18, x18⟩ := hz18
    try have u18_0 : σ18 29 1 = σ 29 1 := by first | exact o18 1 (by decide) | exact congrFun (f18 29 (by decide)) 1
    try have u18_1 : σ18 29 2 = σ 29 2 := by first | exact o18 2 (by decide) | exact congrFun (f18 29 (by decide)) 2
    try have u18_2 : σ18 29 3 = σ 29 3 := by first | exact o18 3 (by decide) | exact congrFun (f18 29 (by decide)) 3
    try have u18_3 : σ18 29 5 = σ 29 5 := by first | exact o18 5 (by decide) | exact congrFun (f18 29 (by decide)) 5
    try have u18_4 : σ18 29 7 = σ 29 7 := by first | exact o18 7 (by decide) | exact congrFun (f18 29 (by decide)) 7
    refine pe_aload_n d_M_insertOne_21 rfl ?_
    refine pe_aload_n d_M_insertOne_22 rfl ?_
    refine pe_geti f_M_117 d_M_insertOne_23 rfl rfl 2 rfl ?_
    refine pe_iconst d_M_insertOne_26 ?_
    refine pe_v2v d_M_insertOne_27 c_M_124 i_M_open s_M_open rfl rfl (t_M_open hB (by omega) (by omega) (by omega) (by rw [((f18 30 (by decide)).trans (rfl))]; exact A30) (by rw [((f18 30 (by decide)).trans (rfl)), show σ18 29 1 = σ 29 1 by omega]; exact N30)) (fun σ27 hz27 => ?_)
    obtain ⟨hB, f27, o27, x27⟩ := hz27
    try have u27_0 : σ27 29 1 = σ18 29 1 := by first | exact o27 1 (by decide) | exact congrFun (f27 29 (by decide)) 1
    try have u27_1 : σ27 29 2 = σ18 29 2 := by first | exact o27 2 (by decide) | exact congrFun (f27 29 (by decide)) 2
    try have u27_2 : σ27 29 3 = σ18 29 3 := by first | exact o27 3 (by decide) | exact congrFun (f27 29 (by decide)) 3
    try have u27_3 : σ27 29 5 = σ18 29 5 := by first | exact o27 5 (by decide) | exact congrFun (f27 29 (by decide)) 5
    try have u27_4 : σ27 29 7 = σ18 29 7 := by first | exact o27 7 (by decide) | exact congrFun (f27 29 (by decide)) 7
    refine pe_aload_n d_M_insertOne_30 rfl ?_
    refine pe_getr f_M_7 d_M_insertOne_31 rfl rfl ?_
    refine pe_aload_n d_M_insertOne_34 rfl ?_
    refine pe_geti f_M_117 d_M_insertOne_35 rfl rfl 2 rfl ?_
    refine pe_iload_n d_M_insertOne_38 rfl ?_
    refine pe_iastT d_M_insertOne_39 rfl (by omega) (by omega) hB (by first | exact hB _ _ | exact hB0 _ _ | exact hBt _ _ | exact ⟨by omega, by omega⟩) (fun σ39 hB e39 o39 f39 => ?_)
    try have u39_0 : σ39 29 1 = σ27 29 1 := by first | exact o39 1 (by decide) | exact congrFun (f39 29 (by decide)) 1
    try have u39_1 : σ39 29 2 = σ27 29 2 := by first | exact o39 2 (by decide) | exact congrFun (f39 29 (by decide)) 2
    try have u39_2 : σ39 29 3 = σ27 29 3 := by first | exact o39 3 (by decide) | exact congrFun (f39 29 (by decide)) 3
    try have u39_3 : σ39 29 5 = σ27 29 5 := by first | exact o39 5 (by decide) | exact congrFun (f39 29 (by decide)) 5
    try have u39_4 : σ39 29 7 = σ27 29 7 := by first | exact o39 7 (by decide) | exact congrFun (f39 29 (by decide)) 7
    have A30 : (∀ j, 0 ≤ σ39 30 j ∧ σ39 30 j ≤ 65535) := pe_all_up e39 o39 x27.2.1 ⟨by omega, hc.2⟩
    refine pe_aload_n d_M_insertOne_40 rfl ?_
    refine pe_aload_n d_M_insertOne_41 rfl ?_
    refine pe_geti f_M_117 d_M_insertOne_42 rfl rfl 2 rfl ?_
    refine pe_iconst d_M_insertOne_45 ?_
    refine pe_iadd d_M_insertOne_46 ?_
    refine pe_v1v d_M_insertOne_47 c_M_128 i_M_settle s_M_settle rfl rfl (t_M_settle hB (by omega) (by omega)) (fun σ47 hz47 => ?_)
    obtain ⟨hB, f47, o47, x47⟩ := hz47
    try have u47_0 : σ47 29 1 = σ39 29 1 := by first | exact o47 1 (by decide) | exact congrFun (f47 29 (by decide)) 1
    try have u47_1 : σ47 29 2 = σ39 29 2 := by first | exact o47 2 (by decide) | exact congrFun (f47 29 (by decide)) 2
    try have u47_2 : σ47 29 3 = σ39 29 3 := by first | exact o47 3 (by decide) | exact congrFun (f47 29 (by decide)) 3
    try have u47_3 : σ47 29 5 = σ39 29 5 := by first | exact o47 5 (by decide) | exact congrFun (f47 29 (by decide)) 5
    try have u47_4 : σ47 29 7 = σ39 29 7 := by first | exact o47 7 (by decide) | exact congrFun (f47 29 (by decide)) 7
    refine pe_rv d_M_insertOne_50 ?_
    exact ⟨hB, (fun b hb => (f47 b (by simp at hb ⊢; try omega)).trans ((f39 b (by simp at hb ⊢; try omega)).trans ((f27 b (by simp at hb ⊢; try omega)).trans ((f18 b (by simp at hb ⊢; try omega)).trans (rfl))))), (fun j hj => (o47 j (by simp at hj ⊢; try omega)).trans ((congrFun (f39 29 (by decide)) j).trans ((o27 j (by simp at hj ⊢; try omega)).trans ((o18 j (by simp at hj ⊢; try omega)).trans (rfl))))), ⟨by omega, by rw [show σ47 30 = σ39 30 from ((f47 30 (by decide)).trans (rfl))]; exact A30, by rw [show σ47 31 = σ 31 from ((f47 31 (by decide)).trans ((f39 31 (by decide)).trans ((f27 31 (by decide)).trans ((f18 31 (by decide)).trans (rfl)))))]; exact A31, by rw [show σ47 36 = σ18 36 from ((f47 36 (by decide)).trans ((f39 36 (by decide)).trans ((f27 36 (by decide)).trans (rfl))))]; exact x18.2.2.1, ⟨by omega, by rw [show σ47 30 = σ39 30 from ((f47 30 (by decide)).trans (rfl)), show σ47 29 1 = σ39 29 1 by omega]; exact x47.2⟩, by omega, by omega, by omega, by rw [show (σ47 29 7).toNat = (σ18 29 7).toNat by omega, show σ47 32 = σ18 32 from ((f47 32 (by decide)).trans ((f39 32 (by decide)).trans ((f27 32 (by decide)).trans (rfl)))), show σ47 33 = σ18 33 from ((f47 33 (by decide)).trans ((f39 33 (by decide)).trans ((f27 33 (by decide)).trans (rfl)))), show σ47 34 = σ18 34 from ((f47 34 (by decide)).trans ((f39 34 (by decide)).trans ((f27 34 (by decide)).trans (rfl)))), show σ47 35 = σ18 35 from ((f47 35 (by decide)).trans ((f39 35 (by decide)).trans ((f27 35 (by decide)).trans (rfl)))), show σ47 29 1 = σ 29 1 + 1 - 0 by omega]; exact x18.2.2.2.1, ⟨fun j a b => by (rw [show σ47 30 = σ39 30 from ((f47 30 (by decide)).trans (rfl))]); (by_cases e : j = σ27 29 2); (rw [e, e39]; omega); (rw [o39 j e]; exact x27.2.2 j a (by omega) (by omega)), by rw [show σ47 29 5 = σ 29 5 by omega, show σ47 31 = σ 31 from ((f47 31 (by decide)).trans ((f39 31 (by decide)).trans ((f27 31 (by decide)).trans ((f18 31 (by decide)).trans (rfl)))))]; exact N31, by rw [show σ47 29 7 = σ18 29 7 by omega, show σ47 34 = σ18 34 from ((f47 34 (by decide)).trans ((f39 34 (by decide)).trans ((f27 34 (by decide)).trans (rfl)))), show σ47 36 = σ18 36 from ((f47 36 (by decide)).trans ((f39 36 (by decide)).trans ((f27 36 (by decide)).trans (rfl))))]; exact x18.2.2.2.2⟩⟩⟩
  · skip
    refine pe_rv d_M_insertOne_10 ?_
    exact ⟨hB, (fun b hb => rfl), (fun j hj => rfl), hM0⟩
theorem t_M_insertClip {σ : pe_H} (hB : pe_B σ) (hM : pe_MEs σ) : pe_M m_M_insertClip [pe_r 29] σ (pe_qv (fun σ' => pe_B σ' ∧ (∀ b, b ∉ [29, 30, 31, 32, 33, 34, 35, 36] → σ' b = σ b) ∧ (∀ j, j ∉ ([1, 2, 3, 5, 7] : List Int) → σ' 29 j = σ 29 j) ∧ pe_MEs σ')) := by
  refine pe_in0 (lv := [some (pe_r 29), none]) ?_
  have hB0 := hB
  have hM0 := hM
  obtain ⟨hl, A30, A31, A36, ⟨hcu, hbg⟩, hma, hcl, hcg, hch, N30, N31, N36⟩ := hM
  have J50 : ∀ x : Int × pe_H, (pe_B x.2 ∧ (∀ b, b ∉ [29, 30, 32, 33, 34, 35, 36] → x.2 b = σ b) ∧ (∀ j, j ∉ ([1, 3, 7] : List Int) → x.2 29 j = σ 29 j) ∧ (x.2 29 1 = σ 29 1 + σ 29 5 ∧ x.2 29 1 ≤ 200 ∧ x.2 29 3 = -1 ∧ 1 ≤ x.2 29 7 ∧ x.2 29 7 ≤ 12) ∧ (∀ j, 0 ≤ x.2 30 j ∧ x.2 30 j ≤ 65535) ∧ (∀ j, 0 ≤ x.2 36 j ∧ x.2 36 j ≤ 65535) ∧ pe_mc (x.2 32) (x.2 33) (x.2 34) (x.2 35) (x.2 29 7).toNat (σ 29 1 + σ 29 5) ∧ (∀ j, 0 ≤ j → j < σ 29 1 + σ 29 5 → (j < σ 29 2 + x.1 ∨ σ 29 2 + σ 29 5 ≤ j) → x.2 30 j ≠ 0) ∧ (∀ n j, 0 ≤ n → n < x.2 29 7 → 0 ≤ j → j < x.2 34 n → j < 200 → x.2 36 (200 * n + j) ≠ 0) ∧ (0 ≤ x.1 ∧ x.1 ≤ σ 29 5)) → pe_G m_M_insertClip 50 [some (pe_r 29), some (pe_i x.1)] [] x.2 (pe_qv (fun σ' => pe_B σ' ∧ (∀ b, b ∉ [29, 30, 31, 32, 33, 34, 35, 36] → σ' b = σ b) ∧ (∀ j, j ∉ ([1, 2, 3, 5, 7] : List Int) → σ' 29 j = σ 29 j) ∧ pe_MEs σ')) := by
    refine pe_loop (fun x : Int × pe_H => (300 - x.1).toNat) _ _ ?_
    intro x hI ih
    obtain ⟨k, τ⟩ := x
    dsimp only at hI ⊢
    obtain ⟨hB, hfr, hX⟩ := hI
    obtain ⟨hor, h7, A30, A36, hch, P30, N36, hX⟩ := hX
    have w2 : τ 29 2 = σ 29 2 := hor 2 (by decide)
    have w5 : τ 29 5 = σ 29 5 := hor 5 (by decide)
    have w31 : τ 31 = σ 31 := hfr 31 (by decide)
    have hBt := hB
    refine pe_iload_n d_M_insertClip_50 rfl ?_
    refine pe_aload_n d_M_insertClip_51 rfl ?_
    refine pe_geti f_M_132 d_M_insertClip_52 rfl rfl 5 rfl ?_
    refine pe_icmp_ge (t := 81) d_M_insertClip_55 (by first | exact hB _ _ | exact hB0 _ _ | exact hBt _ _ | exact ⟨by omega, by omega⟩) (by first | exact hB _ _ | exact hB0 _ _ | exact hBt _ _ | exact ⟨by omega, by omega⟩) (fun h55 => ?_) (fun h55 => ?_)
    · skip
      refine pe_aload_n d_M_insertClip_81 rfl ?_
      refine pe_aload_n d_M_insertClip_82 rfl ?_
      refine pe_geti f_M_117 d_M_insertClip_83 rfl rfl 2 rfl ?_
      refine pe_aload_n d_M_insertClip_86 rfl ?_
      refine pe_geti f_M_132 d_M_insertClip_87 rfl rfl 5 rfl ?_
      refine pe_iadd d_M_insertClip_90 ?_
      refine pe_v1v d_M_insertClip_91 c_M_128 i_M_settle s_M_settle rfl rfl (t_M_settle hB (by omega) (by omega)) (fun σ91 hz91 => ?_)
      obtain ⟨hB, f91, o91, x91⟩ := hz91
      try have u91_0 : σ91 29 1 = τ 29 1 := by first | exact o91 1 (by decide) | exact congrFun (f91 29 (by decide)) 1
      try have u91_1 : σ91 29 2 = τ 29 2 := by first | exact o91 2 (by decide) | exact congrFun (f91 29 (by decide)) 2
      try have u91_2 : σ91 29 3 = τ 29 3 := by first | exact o91 3 (by decide) | exact congrFun (f91 29 (by decide)) 3
      try have u91_3 : σ91 29 5 = τ 29 5 := by first | exact o91 5 (by decide) | exact congrFun (f91 29 (by decide)) 5
      try have u91_4 : σ91 29 7 = τ 29 7 := by first | exact o91 7 (by decide) | exact congrFun (f91 29 (by decide)) 7
      refine pe_rv d_M_insertClip_94 ?_
      exact ⟨hB, (fun b hb => (f91 b (by simp at hb ⊢; try omega)).trans (hfr b (by simp at hb ⊢; try omega))), (fun j hj => (o91 j (by simp at hj ⊢; try omega)).trans (hor j (by simp at hj ⊢; try omega))), ⟨by omega, by rw [f91 30 (by decide)]; exact A30, by rw [f91 31 (by decide), w31]; exact A31, by rw [f91 36 (by decide)]; exact A36, ⟨by omega, by rw [f91 30 (by decide), show σ91 29 1 = τ 29 1 by omega]; exact x91.2⟩, by omega, by omega, by omega, by rw [show (σ91 29 7).toNat = (τ 29 7).toNat by omega, f91 32 (by decide), f91 33 (by decide), f91 34 (by decide), f91 35 (by decide), show σ91 29 1 = σ 29 1 + σ 29 5 by omega]; exact hch, ⟨fun j a b => by rw [f91 30 (by decide)]; exact P30 j a (by omega) (by omega), by rw [f91 31 (by decide), w31, show σ91 29 5 = σ 29 5 by omega]; exact N31, by rw [show σ91 29 7 = τ 29 7 by omega, f91 34 (by decide), f91 36 (by decide)]; exact N36⟩⟩⟩
    · skip
      refine pe_aload_n d_M_insertClip_58 rfl ?_
      refine pe_getr f_M_7 d_M_insertClip_59 rfl rfl ?_
      refine pe_aload_n d_M_insertClip_62 rfl ?_
      refine pe_geti f_M_117 d_M_insertClip_63 rfl rfl 2 rfl ?_
      refine pe_iload_n d_M_insertClip_66 rfl ?_
      refine pe_iadd d_M_insertClip_67 ?_
      refine pe_aload_n d_M_insertClip_68 rfl ?_
      refine pe_getr f_M_17 d_M_insertClip_69 rfl rfl ?_
      refine pe_iload_n d_M_insertClip_72 rfl ?_
      refine pe_iald d_M_insertClip_73 rfl (by omega) (by omega) ?_
      have at1 := A31 k
      rw [← w31] at at1
      refine pe_iastT d_M_insertClip_74 rfl (by omega) (by omega) hB (by first | exact hB _ _ | exact hB0 _ _ | exact hBt _ _ | exact ⟨by omega, by omega⟩) (fun σ74 hB e74 o74 f74 => ?_)
      try have u74_0 : σ74 29 1 = τ 29 1 := by first | exact o74 1 (by decide) | exact congrFun (f74 29 (by decide)) 1
      try have u74_1 : σ74 29 2 = τ 29 2 := by first | exact o74 2 (by decide) | exact congrFun (f74 29 (by decide)) 2
      try have u74_2 : σ74 29 3 = τ 29 3 := by first | exact o74 3 (by decide) | exact congrFun (f74 29 (by decide)) 3
      try have u74_3 : σ74 29 5 = τ 29 5 := by first | exact o74 5 (by decide) | exact congrFun (f74 29 (by decide)) 5
      try have u74_4 : σ74 29 7 = τ 29 7 := by first | exact o74 7 (by decide) | exact congrFun (f74 29 (by decide)) 7
      have A30 : (∀ j, 0 ≤ σ74 30 j ∧ σ74 30 j ≤ 65535) := pe_all_up e74 o74 A30 at1
      have P30 : ∀ j, 0 ≤ j → j < σ 29 1 + σ 29 5 → (j < σ 29 2 + (k + 1) ∨ σ 29 2 + σ 29 5 ≤ j) → σ74 30 j ≠ 0 := fun j a b c => by
        by_cases e : j = τ 29 2 + k
        · rw [e, e74, w31]; exact N31 k (by omega) (by omega)
        · rw [o74 j e]; exact P30 j a b (by omega)
      have N36 : (∀ n j, 0 ≤ n → n < σ74 29 7 → 0 ≤ j → j < σ74 34 n → j < 200 → σ74 36 (200 * n + j) ≠ 0) := by rw [show σ74 29 7 = τ 29 7 by omega, f74 34 (by decide), f74 36 (by decide)]; exact N36
      refine pe_iinc d_M_insertClip_75 rfl ?_
      refine pe_goto (t := 50) d_M_insertClip_78 ?_
      exact ih (_, _) ⟨hB, (fun b hb => (f74 b (by simp at hb ⊢; try omega)).trans (hfr b (by simp at hb ⊢; try omega))), (fun j hj => (congrFun (f74 29 (by decide)) j).trans (hor j (by simp at hj ⊢; try omega))), by (try dsimp only); omega, A30, by (try dsimp only); rw [f74 36 (by decide)]; exact A36, by (try dsimp only); rw [show (σ74 29 7).toNat = (τ 29 7).toNat by omega, f74 32 (by decide), f74 33 (by decide), f74 34 (by decide), f74 35 (by decide)]; exact hch, P30, N36, by (try dsimp only); omega⟩ (by (try dsimp only); omega)
  refine pe_aload_n d_M_insertClip_0 rfl ?_
  refine pe_geti f_M_132 d_M_insertClip_1 rfl rfl 5 rfl ?_
  refine pe_if_eq (t := 22) d_M_insertClip_4 (by first | exact hB _ _ | exact hB0 _ _ | exact hBt _ _ | exact ⟨by omega, by omega⟩) (fun h4 => ?_) (fun h4 => ?_)
  · skip
    refine pe_rv d_M_insertClip_22 ?_
    exact ⟨hB, (fun b hb => rfl), (fun j hj => rfl), hM0⟩
  · skip
    refine pe_aload_n d_M_insertClip_7 rfl ?_
    refine pe_geti f_M_87 d_M_insertClip_8 rfl rfl 1 rfl ?_
    refine pe_aload_n d_M_insertClip_11 rfl ?_
    refine pe_geti f_M_132 d_M_insertClip_12 rfl rfl 5 rfl ?_
    refine pe_iadd d_M_insertClip_15 ?_
    refine pe_sipush d_M_insertClip_16 ?_
    refine pe_icmp_le (t := 23) d_M_insertClip_19 (by first | exact hB _ _ | exact hB0 _ _ | exact hBt _ _ | exact ⟨by omega, by omega⟩) (by first | exact hB _ _ | exact hB0 _ _ | exact hBt _ _ | exact ⟨by omega, by omega⟩) (fun h19 => ?_) (fun h19 => ?_)
    · skip
      refine pe_aload_n d_M_insertClip_23 rfl ?_
      refine pe_aload_n d_M_insertClip_24 rfl ?_
      refine pe_geti f_M_117 d_M_insertClip_25 rfl rfl 2 rfl ?_
      refine pe_aload_n d_M_insertClip_28 rfl ?_
      refine pe_geti f_M_132 d_M_insertClip_29 rfl rfl 5 rfl ?_
      refine pe_iconst d_M_insertClip_32 ?_
      refine pe_v3v d_M_insertClip_33 c_M_120 i_M_note s_M_note rfl rfl (t_M_note hB (by omega) A30 A36 (by omega) (by omega) hch (by omega) N30 N36) (fun σ33 hz33 => ?_)
      obtain ⟨hB, f33, o33, x33⟩ := hz33
      try have u33_0 : σ33 29 1 = σ 29 1 := by first | exact o33 1 (by decide) | exact congrFun (f33 29 (by decide)) 1
      try have u33_1 : σ33 29 2 = σ 29 2 := by first | exact o33 2 (by decide) | exact congrFun (f33 29 (by decide)) 2
      try have u33_2 : σ33 29 3 = σ 29 3 := by first | exact o33 3 (by decide) | exact congrFun (f33 29 (by decide)) 3
      try have u33_3 : σ33 29 5 = σ 29 5 := by first | exact o33 5 (by decide) | exact congrFun (f33 29 (by decide)) 5
      try have u33_4 : σ33 29 7 = σ 29 7 := by first | exact o33 7 (by decide) | exact congrFun (f33 29 (by decide)) 7
      refine pe_aload_n d_M_insertClip_36 rfl ?_
      refine pe_aload_n d_M_insertClip_37 rfl ?_
      refine pe_geti f_M_117 d_M_insertClip_38 rfl rfl 2 rfl ?_
      refine pe_aload_n d_M_insertClip_41 rfl ?_
      refine pe_geti f_M_132 d_M_insertClip_42 rfl rfl 5 rfl ?_
      refine pe_v2v d_M_insertClip_45 c_M_124 i_M_open s_M_open rfl rfl (t_M_open hB (by omega) (by omega) (by omega) (by rw [((f33 30 (by decide)).trans (rfl))]; exact A30) (by rw [((f33 30 (by decide)).trans (rfl)), show σ33 29 1 = σ 29 1 by omega]; exact N30)) (fun σ45 hz45 => ?_)
      obtain ⟨hB, f45, o45, x45⟩ := hz45
      try have u45_0 : σ45 29 1 = σ33 29 1 := by first | exact o45 1 (by decide) | exact congrFun (f45 29 (by decide)) 1
      try have u45_1 : σ45 29 2 = σ33 29 2 := by first | exact o45 2 (by decide) | exact congrFun (f45 29 (by decide)) 2
      try have u45_2 : σ45 29 3 = σ33 29 3 := by first | exact o45 3 (by decide) | exact congrFun (f45 29 (by decide)) 3
      try have u45_3 : σ45 29 5 = σ33 29 5 := by first | exact o45 5 (by decide) | exact congrFun (f45 29 (by decide)) 5
      try have u45_4 : σ45 29 7 = σ33 29 7 := by first | exact o45 7 (by decide) | exact congrFun (f45 29 (by decide)) 7
      refine pe_iconst d_M_insertClip_48 ?_
      refine pe_istore_n d_M_insertClip_49 ?_
      exact J50 (_, _) ⟨hB, (fun b hb => (f45 b (by simp at hb ⊢; try omega)).trans ((f33 b (by simp at hb ⊢; try omega)).trans (rfl))), (fun j hj => (o45 j (by simp at hj ⊢; try omega)).trans ((o33 j (by simp at hj ⊢; try omega)).trans (rfl))), by (try dsimp only); omega, x45.2.1, by (try dsimp only); rw [show σ45 36 = σ33 36 from ((f45 36 (by decide)).trans (rfl))]; exact x33.2.2.1, by (try dsimp only); rw [show (σ45 29 7).toNat = (σ33 29 7).toNat by omega, show σ45 32 = σ33 32 from ((f45 32 (by decide)).trans (rfl)), show σ45 33 = σ33 33 from ((f45 33 (by decide)).trans (rfl)), show σ45 34 = σ33 34 from ((f45 34 (by decide)).trans (rfl)), show σ45 35 = σ33 35 from ((f45 35 (by decide)).trans (rfl)), show σ 29 1 + σ 29 5 = σ 29 1 + σ 29 5 - 0 by omega]; exact x33.2.2.2.1, fun j a b c => x45.2.2 j a (by (try dsimp only at *); omega) (by (try dsimp only at *); omega), by (try dsimp only); rw [show σ45 29 7 = σ33 29 7 by omega, show σ45 34 = σ33 34 from ((f45 34 (by decide)).trans (rfl)), show σ45 36 = σ33 36 from ((f45 36 (by decide)).trans (rfl))]; exact x33.2.2.2.2, by (try dsimp only); omega⟩
    · skip
      refine pe_rv d_M_insertClip_22 ?_
      exact ⟨hB, (fun b hb => rfl), (fun j hj => rfl), hM0⟩
theorem t_M_takeAway {σ : pe_H} {f t : Int} (hB : pe_B σ) (hM : pe_MEs σ) (hf : 0 ≤ f ∧ f ≤ t ∧ t ≤ σ 29 1) : pe_M m_M_takeAway [pe_r 29, pe_i f, pe_i t] σ (pe_qv (fun σ' => pe_B σ' ∧ (∀ b, b ∉ [29, 30, 31, 32, 33, 34, 35, 36] → σ' b = σ b) ∧ (∀ j, j ∉ ([1, 2, 3, 5, 7] : List Int) → σ' 29 j = σ 29 j) ∧ pe_MEs σ')) := by
  refine pe_in0 (lv := [some (pe_r 29), some (pe_i f), some (pe_i t)]) ?_
  have hB0 := hB
  have hM0 := hM
  obtain ⟨hl, A30, A31, A36, ⟨hcu, hbg⟩, hma, hcl, hcg, hch, N30, N31, N36⟩ := hM
  refine pe_iload_n d_M_takeAway_0 rfl ?_
  refine pe_iload_n d_M_takeAway_1 rfl ?_
  refine pe_icmp_ne (t := 6) d_M_takeAway_2 (by first | exact hB _ _ | exact hB0 _ _ | exact hBt _ _ | exact ⟨by omega, by omega⟩) (by first | exact hB _ _ | exact hB0 _ _ | exact hBt _ _ | exact ⟨by omega, by omega⟩) (fun h2 => ?_) (fun h2 => ?_)
  · skip
    refine pe_aload_n d_M_takeAway_6 rfl ?_
    refine pe_iload_n d_M_takeAway_7 rfl ?_
    refine pe_iconst d_M_takeAway_8 ?_
    refine pe_iload_n d_M_takeAway_9 rfl ?_
    refine pe_iload_n d_M_takeAway_10 rfl ?_
    refine pe_isub d_M_takeAway_11 ?_
    refine pe_v3v d_M_takeAway_12 c_M_120 i_M_note s_M_note rfl rfl (t_M_note hB (by omega) A30 A36 (by omega) (by omega) hch (by omega) N30 N36) (fun σ12 hz12 => ?_)
    obtain ⟨hB, f12, o12, x12⟩ := hz12
    try have u12_0 : σ12 29 1 = σ 29 1 := by first | exact o12 1 (by decide) | exact congrFun (f12 29 (by decide)) 1
    try have u12_1 : σ12 29 2 = σ 29 2 := by first | exact o12 2 (by decide) | exact congrFun (f12 29 (by decide)) 2
    try have u12_2 : σ12 29 3 = σ 29 3 := by first | exact o12 3 (by decide) | exact congrFun (f12 29 (by decide)) 3
    try have u12_3 : σ12 29 5 = σ 29 5 := by first | exact o12 5 (by decide) | exact congrFun (f12 29 (by decide)) 5
    try have u12_4 : σ12 29 7 = σ 29 7 := by first | exact o12 7 (by decide) | exact congrFun (f12 29 (by decide)) 7
    refine pe_aload_n d_M_takeAway_15 rfl ?_
    refine pe_iload_n d_M_takeAway_16 rfl ?_
    refine pe_iload_n d_M_takeAway_17 rfl ?_
    refine pe_iload_n d_M_takeAway_18 rfl ?_
    refine pe_isub d_M_takeAway_19 ?_
    refine pe_v2v d_M_takeAway_20 c_M_135 i_M_close s_M_close rfl rfl (t_M_close hB (by omega) (by omega) (by rw [((f12 30 (by decide)).trans (rfl))]; exact A30) (by rw [((f12 30 (by decide)).trans (rfl)), show σ12 29 1 = σ 29 1 by omega]; exact N30)) (fun σ20 hz20 => ?_)
    obtain ⟨hB, f20, o20, x20⟩ := hz20
    try have u20_0 : σ20 29 1 = σ12 29 1 := by first | exact o20 1 (by decide) | exact congrFun (f20 29 (by decide)) 1
    try have u20_1 : σ20 29 2 = σ12 29 2 := by first | exact o20 2 (by decide) | exact congrFun (f20 29 (by decide)) 2
    try have u20_2 : σ20 29 3 = σ12 29 3 := by first | exact o20 3 (by decide) | exact congrFun (f20 29 (by decide)) 3
    try have u20_3 : σ20 29 5 = σ12 29 5 := by first | exact o20 5 (by decide) | exact congrFun (f20 29 (by decide)) 5
    try have u20_4 : σ20 29 7 = σ12 29 7 := by first | exact o20 7 (by decide) | exact congrFun (f20 29 (by decide)) 7
    refine pe_aload_n d_M_takeAway_23 rfl ?_
    refine pe_iload_n d_M_takeAway_24 rfl ?_
    refine pe_v1v d_M_takeAway_25 c_M_128 i_M_settle s_M_settle rfl rfl (t_M_settle hB (by omega) (by omega)) (fun σ25 hz25 => ?_)
    obtain ⟨hB, f25, o25, x25⟩ := hz25
    try have u25_0 : σ25 29 1 = σ20 29 1 := by first | exact o25 1 (by decide) | exact congrFun (f25 29 (by decide)) 1
    try have u25_1 : σ25 29 2 = σ20 29 2 := by first | exact o25 2 (by decide) | exact congrFun (f25 29 (by decide)) 2
    try have u25_2 : σ25 29 3 = σ20 29 3 := by first | exact o25 3 (by decide) | exact congrFun (f25 29 (by decide)) 3
    try have u25_3 : σ25 29 5 = σ20 29 5 := by first | exact o25 5 (by decide) | exact congrFun (f25 29 (by decide)) 5
    try have u25_4 : σ25 29 7 = σ20 29 7 := by first | exact o25 7 (by decide) | exact congrFun (f25 29 (by decide)) 7
    refine pe_rv d_M_takeAway_28 ?_
    exact ⟨hB, (fun b hb => (f25 b (by simp at hb ⊢; try omega)).trans ((f20 b (by simp at hb ⊢; try omega)).trans ((f12 b (by simp at hb ⊢; try omega)).trans (rfl)))), (fun j hj => (o25 j (by simp at hj ⊢; try omega)).trans ((o20 j (by simp at hj ⊢; try omega)).trans ((o12 j (by simp at hj ⊢; try omega)).trans (rfl)))), ⟨by omega, by rw [show σ25 30 = σ20 30 from ((f25 30 (by decide)).trans (rfl))]; exact x20.2.1, by rw [show σ25 31 = σ 31 from ((f25 31 (by decide)).trans ((f20 31 (by decide)).trans ((f12 31 (by decide)).trans (rfl))))]; exact A31, by rw [show σ25 36 = σ12 36 from ((f25 36 (by decide)).trans ((f20 36 (by decide)).trans (rfl)))]; exact x12.2.2.1, ⟨by omega, by rw [show σ25 30 = σ20 30 from ((f25 30 (by decide)).trans (rfl)), show σ25 29 1 = σ20 29 1 by omega]; exact x25.2⟩, by omega, by omega, by omega, by rw [show (σ25 29 7).toNat = (σ12 29 7).toNat by omega, show σ25 32 = σ12 32 from ((f25 32 (by decide)).trans ((f20 32 (by decide)).trans (rfl))), show σ25 33 = σ12 33 from ((f25 33 (by decide)).trans ((f20 33 (by decide)).trans (rfl))), show σ25 34 = σ12 34 from ((f25 34 (by decide)).trans ((f20 34 (by decide)).trans (rfl))), show σ25 35 = σ12 35 from ((f25 35 (by decide)).trans ((f20 35 (by decide)).trans (rfl))), show σ25 29 1 = σ 29 1 + 0 - (t - f) by omega]; exact x12.2.2.2.1, ⟨fun j a b => by rw [show σ25 30 = σ20 30 from ((f25 30 (by decide)).trans (rfl))]; exact x20.2.2 j a (by omega), by rw [show σ25 29 5 = σ 29 5 by omega, show σ25 31 = σ 31 from ((f25 31 (by decide)).trans ((f20 31 (by decide)).trans ((f12 31 (by decide)).trans (rfl))))]; exact N31, by rw [show σ25 29 7 = σ12 29 7 by omega, show σ25 34 = σ12 34 from ((f25 34 (by decide)).trans ((f20 34 (by decide)).trans (rfl))), show σ25 36 = σ12 36 from ((f25 36 (by decide)).trans ((f20 36 (by decide)).trans (rfl)))]; exact x12.2.2.2.2⟩⟩⟩
  · skip
    refine pe_rv d_M_takeAway_5 ?_
    exact ⟨hB, (fun b hb => rfl), (fun j hj => rfl), hM0⟩
