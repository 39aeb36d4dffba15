theorem pe_ME_g {m t k l p c w u m' t' k' l' p' c' w' u' : Int → Int} (q : pe_ME m t k l p c w u) (e1 : m' 1 = m 1) (e5 : m' 5 = m 5) (e7 : m' 7 = m 7) (h2 : (0 ≤ m' 2 ∧ m' 2 ≤ m 1) ∧ pe_bg t (m 1) (m' 2)) (h3 : -1 ≤ m' 3 ∧ m' 3 ≤ m 1) (a1 : t' = t) (a2 : k' = k) (a3 : l' = l) (a4 : p' = p) (a5 : c' = c) (a6 : w' = w) (a7 : u' = u) : pe_ME m' t' k' l' p' c' w' u' := by
  subst a1; subst a2; subst a3; subst a4; subst a5; subst a6; subst a7
  obtain ⟨q1, q2, q3, q4, q5, q6, q7, q8, q9⟩ := q
  unfold pe_ME pe_NZ
  rw [e1, e5, e7]
  exact ⟨q1, q2, q3, q4, h2, h3, q7, q8, q9⟩
def pe_KI (m : Int → Int) : Prop := (0 ≤ m 14 ∧ m 14 ≤ 9999) ∧ (0 ≤ m 15 ∧ m 15 ≤ 2) ∧ (0 ≤ m 16 ∧ m 16 ≤ 65535) ∧ (m 15 = 2 → m 16 ≤ 15) ∧ (m 15 = 1 → 1 ≤ m 16 ∧ m 16 ≤ 1023) ∧ (m 15 = 2 → 1 ≤ m 16 ∨ 160 ≤ m 17) ∧ (0 < m 15 → m 18 ≤ 191)
theorem t_M_lineBegin {σ : pe_H} (hB : pe_B σ) (hM : pe_MEs σ) : pe_M m_M_lineBegin [pe_r 29] σ (pe_qp σ (fun z => (0 ≤ z ∧ z ≤ σ 29 1) ∧ pe_bg (σ 30) (σ 29 1) z)) := by
  refine pe_in0 (lv := [some (pe_r 29), none]) ?_
  have hB0 := hB
  have hM0 := hM
  obtain ⟨hl, A30, A31, A36, ⟨hcu, hbg⟩, hma, hcl, hcg, hch, N30, N31, N36⟩ := hM
  have J5 : ∀ q : Int, (0 ≤ q ∧ q ≤ σ 29 1) → pe_G m_M_lineBegin 5 [some (pe_r 29), some (pe_i q)] [] σ (pe_qp σ (fun z => (0 ≤ z ∧ z ≤ σ 29 1) ∧ pe_bg (σ 30) (σ 29 1) z)) := by
    refine pe_loop (fun q : Int => (q + 10).toNat) _ _ ?_
    intro q hI ih
    refine pe_iload_n d_M_lineBegin_5 rfl ?_
    refine pe_if_le (t := 28) d_M_lineBegin_6 (by first | exact hB _ _ | exact hB0 _ _ | exact hBt _ _ | exact ⟨by omega, by omega⟩) (fun h6 => ?_) (fun h6 => ?_)
    · skip
      refine pe_iload_n d_M_lineBegin_28 rfl ?_
      refine pe_ri d_M_lineBegin_29 ?_
      exact ⟨rfl, hI, by unfold pe_bg; omega⟩
    · skip
      refine pe_aload_n d_M_lineBegin_9 rfl ?_
      refine pe_getr f_M_7 d_M_lineBegin_10 rfl rfl ?_
      refine pe_iload_n d_M_lineBegin_13 rfl ?_
      refine pe_iconst d_M_lineBegin_14 ?_
      refine pe_isub d_M_lineBegin_15 ?_
      refine pe_iald d_M_lineBegin_16 rfl (by omega) (by omega) ?_
      refine pe_bipush d_M_lineBegin_17 ?_
      refine pe_icmp_eq (t := 28) d_M_lineBegin_19 (by first | exact hB _ _ | exact hB0 _ _ | exact hBt _ _ | exact ⟨by omega, by omega⟩) (by first | exact hB _ _ | exact hB0 _ _ | exact hBt _ _ | exact ⟨by omega, by omega⟩) (fun h19 => ?_) (fun h19 => ?_)
      · skip
        refine pe_iload_n d_M_lineBegin_28 rfl ?_
        refine pe_ri d_M_lineBegin_29 ?_
        exact ⟨rfl, hI, by unfold pe_bg; omega⟩
      · skip
        refine pe_iinc d_M_lineBegin_22 rfl ?_
        refine pe_goto (t := 5) d_M_lineBegin_25 ?_
        exact ih _ (by omega) (by omega)
  refine pe_aload_n d_M_lineBegin_0 rfl ?_
  refine pe_geti f_M_117 d_M_lineBegin_1 rfl rfl 2 rfl ?_
  refine pe_istore_n d_M_lineBegin_4 ?_
  exact J5 _ (by omega)
theorem t_M_lineEnd {σ : pe_H} (hB : pe_B σ) (hM : pe_MEs σ) : pe_M m_M_lineEnd [pe_r 29] σ (pe_qp σ (fun z => (0 ≤ z ∧ z ≤ σ 29 1) ∧ pe_bg (σ 30) (σ 29 1) z)) := by
  refine pe_in0 (lv := [some (pe_r 29), none]) ?_
  have hB0 := hB
  have hM0 := hM
  obtain ⟨hl, A30, A31, A36, ⟨hcu, hbg⟩, hma, hcl, hcg, hch, N30, N31, N36⟩ := hM
  have J5 : ∀ q : Int, (0 ≤ q ∧ q ≤ σ 29 1) → pe_G m_M_lineEnd 5 [some (pe_r 29), some (pe_i q)] [] σ (pe_qp σ (fun z => (0 ≤ z ∧ z ≤ σ 29 1) ∧ pe_bg (σ 30) (σ 29 1) z)) := by
    refine pe_loop (fun q : Int => (300 - q).toNat) _ _ ?_
    intro q hI ih
    refine pe_iload_n d_M_lineEnd_5 rfl ?_
    refine pe_aload_n d_M_lineEnd_6 rfl ?_
    refine pe_geti f_M_87 d_M_lineEnd_7 rfl rfl 1 rfl ?_
    refine pe_icmp_ge (t := 30) d_M_lineEnd_10 (by first | exact hB _ _ | exact hB0 _ _ | exact hBt _ _ | exact ⟨by omega, by omega⟩) (by first | exact hB _ _ | exact hB0 _ _ | exact hBt _ _ | exact ⟨by omega, by omega⟩) (fun h10 => ?_) (fun h10 => ?_)
    · skip
      refine pe_iload_n d_M_lineEnd_30 rfl ?_
      refine pe_ri d_M_lineEnd_31 ?_
      exact ⟨rfl, hI, by unfold pe_bg; omega⟩
    · skip
      refine pe_aload_n d_M_lineEnd_13 rfl ?_
      refine pe_getr f_M_7 d_M_lineEnd_14 rfl rfl ?_
      refine pe_iload_n d_M_lineEnd_17 rfl ?_
      refine pe_iald d_M_lineEnd_18 rfl (by omega) (by omega) ?_
      refine pe_bipush d_M_lineEnd_19 ?_
      refine pe_icmp_eq (t := 30) d_M_lineEnd_21 (by first | exact hB _ _ | exact hB0 _ _ | exact hBt _ _ | exact ⟨by omega, by omega⟩) (by first | exact hB _ _ | exact hB0 _ _ | exact hBt _ _ | exact ⟨by omega, by omega⟩) (fun h21 => ?_) (fun h21 => ?_)
      · skip
        refine pe_iload_n d_M_lineEnd_30 rfl ?_
        refine pe_ri d_M_lineEnd_31 ?_
        exact ⟨rfl, hI, by unfold pe_bg; omega⟩
      · skip
        refine pe_iinc d_M_lineEnd_24 rfl ?_
        refine pe_goto (t := 5) d_M_lineEnd_27 ?_
        exact ih _ (by omega) (by omega)
  refine pe_aload_n d_M_lineEnd_0 rfl ?_
  refine pe_geti f_M_117 d_M_lineEnd_1 rfl rfl 2 rfl ?_
  refine pe_istore_n d_M_lineEnd_4 ?_
  exact J5 _ (by omega)
theorem t_M_character {σ : pe_H} {c : Int} (hB : pe_B σ) (hM : pe_MEs σ) (hc : 1 ≤ c ∧ c ≤ 65535) : pe_M m_M_character [pe_r 29, pe_i c] σ (pe_qv (fun σ' => pe_B σ' ∧ (∀ b, b ∉ [29, 30, 31, 32, 33, 34, 35, 36] → σ' b = σ b) ∧ (∀ j, j ∉ ([1, 2, 3, 5, 7, 6] : List Int) → σ' 29 j = σ 29 j) ∧ pe_MEs σ')) := by
  refine pe_in0 (lv := [some (pe_r 29), some (pe_i c)]) ?_
  have hB0 := hB
  have hM0 := hM
  obtain ⟨hl, A30, A31, A36, ⟨hcu, hbg⟩, hma, hcl, hcg, hch, N30, N31, N36⟩ := hM
  refine pe_aload_n d_M_character_0 rfl ?_
  refine pe_iconst d_M_character_1 ?_
  refine pe_putiT f_M_20 g_11_6 d_M_character_2 rfl rfl 6 rfl hB (by first | exact hB _ _ | exact hB0 _ _ | exact hBt _ _ | exact ⟨by omega, by omega⟩) (fun σ2 hB e2 o2 f2 => ?_)
  try have u2_0 : σ2 29 1 = σ 29 1 := by first | exact o2 1 (by decide) | exact congrFun (f2 29 (by decide)) 1
  try have u2_1 : σ2 29 2 = σ 29 2 := by first | exact o2 2 (by decide) | exact congrFun (f2 29 (by decide)) 2
  try have u2_2 : σ2 29 3 = σ 29 3 := by first | exact o2 3 (by decide) | exact congrFun (f2 29 (by decide)) 3
  try have u2_3 : σ2 29 5 = σ 29 5 := by first | exact o2 5 (by decide) | exact congrFun (f2 29 (by decide)) 5
  try have u2_4 : σ2 29 7 = σ 29 7 := by first | exact o2 7 (by decide) | exact congrFun (f2 29 (by decide)) 7
  refine pe_aload_n d_M_character_5 rfl ?_
  refine pe_iload_n d_M_character_6 rfl ?_
  refine pe_v1v d_M_character_7 c_M_141 i_M_insertOne s_M_insertOne rfl rfl (t_M_insertOne hB (pe_ME_g hM0 (by omega) (by omega) (by omega) ⟨by omega, by rw [show σ2 29 2 = σ 29 2 by omega]; exact hbg⟩ (by omega) ((f2 30 (by decide)).trans (rfl)) ((f2 31 (by decide)).trans (rfl)) ((f2 36 (by decide)).trans (rfl)) ((f2 32 (by decide)).trans (rfl)) ((f2 33 (by decide)).trans (rfl)) ((f2 34 (by decide)).trans (rfl)) ((f2 35 (by decide)).trans (rfl))) (by omega)) (fun σ7 hz7 => ?_)
  obtain ⟨hB, f7, o7, x7⟩ := hz7
  try have u7_0 : σ7 29 1 = σ2 29 1 := by first | exact o7 1 (by decide) | exact congrFun (f7 29 (by decide)) 1
  try have u7_1 : σ7 29 2 = σ2 29 2 := by first | exact o7 2 (by decide) | exact congrFun (f7 29 (by decide)) 2
  try have u7_2 : σ7 29 3 = σ2 29 3 := by first | exact o7 3 (by decide) | exact congrFun (f7 29 (by decide)) 3
  try have u7_3 : σ7 29 5 = σ2 29 5 := by first | exact o7 5 (by decide) | exact congrFun (f7 29 (by decide)) 5
  try have u7_4 : σ7 29 7 = σ2 29 7 := by first | exact o7 7 (by decide) | exact congrFun (f7 29 (by decide)) 7
  refine pe_rv d_M_character_10 ?_
  exact ⟨hB, (fun b hb => (f7 b (by simp at hb ⊢; try omega)).trans ((f2 b (by simp at hb ⊢; try omega)).trans (rfl))), (fun j hj => (o7 j (by simp at hj ⊢; try omega)).trans ((o2 j (by simp at hj ⊢; try omega)).trans (rfl))), x7⟩
theorem t_M_escapeKey {σ : pe_H} (hB : pe_B σ) (hM : pe_MEs σ) : pe_M m_M_escapeKey [pe_r 29] σ (pe_qv (fun σ' => pe_B σ' ∧ (∀ b, b ∉ [29] → σ' b = σ b) ∧ (∀ j, j ∉ ([3, 6] : List Int) → σ' 29 j = σ 29 j) ∧ pe_MEs σ')) := by
  refine pe_in0 (lv := [some (pe_r 29)]) ?_
  have hB0 := hB
  have hM0 := hM
  obtain ⟨hl, A30, A31, A36, ⟨hcu, hbg⟩, hma, hcl, hcg, hch, N30, N31, N36⟩ := hM
  refine pe_aload_n d_M_escapeKey_0 rfl ?_
  refine pe_geti f_M_147 d_M_escapeKey_1 rfl rfl 19 rfl ?_
  refine pe_if_eq (t := 8) d_M_escapeKey_4 (by first | exact hB _ _ | exact hB0 _ _ | exact hBt _ _ | exact ⟨by omega, by omega⟩) (fun h4 => ?_) (fun h4 => ?_)
  · skip
    refine pe_aload_n d_M_escapeKey_8 rfl ?_
    refine pe_iconst d_M_escapeKey_9 ?_
    refine pe_putiT f_M_20 g_11_6 d_M_escapeKey_10 rfl rfl 6 rfl hB (by first | exact hB _ _ | exact hB0 _ _ | exact hBt _ _ | exact ⟨by omega, by omega⟩) (fun σ10 hB e10 o10 f10 => ?_)
    try have u10_0 : σ10 29 1 = σ 29 1 := by first | exact o10 1 (by decide) | exact congrFun (f10 29 (by decide)) 1
    try have u10_1 : σ10 29 2 = σ 29 2 := by first | exact o10 2 (by decide) | exact congrFun (f10 29 (by decide)) 2
    try have u10_2 : σ10 29 3 = σ 29 3 := by first | exact o10 3 (by decide) | exact congrFun (f10 29 (by decide)) 3
    try have u10_3 : σ10 29 5 = σ 29 5 := by first | exact o10 5 (by decide) | exact congrFun (f10 29 (by decide)) 5
    try have u10_4 : σ10 29 7 = σ 29 7 := by first | exact o10 7 (by decide) | exact congrFun (f10 29 (by decide)) 7
    refine pe_aload_n d_M_escapeKey_13 rfl ?_
    refine pe_iconst d_M_escapeKey_14 ?_
    refine pe_putiT f_M_13 g_11_3 d_M_escapeKey_15 rfl rfl 3 rfl hB (by first | exact hB _ _ | exact hB0 _ _ | exact hBt _ _ | exact ⟨by omega, by omega⟩) (fun σ15 hB e15 o15 f15 => ?_)
    try have u15_0 : σ15 29 1 = σ10 29 1 := by first | exact o15 1 (by decide) | exact congrFun (f15 29 (by decide)) 1
    try have u15_1 : σ15 29 2 = σ10 29 2 := by first | exact o15 2 (by decide) | exact congrFun (f15 29 (by decide)) 2
    try have u15_2 : σ15 29 3 = σ10 29 3 := by first | exact o15 3 (by decide) | exact congrFun (f15 29 (by decide)) 3
    try have u15_3 : σ15 29 5 = σ10 29 5 := by first | exact o15 5 (by decide) | exact congrFun (f15 29 (by decide)) 5
    try have u15_4 : σ15 29 7 = σ10 29 7 := by first | exact o15 7 (by decide) | exact congrFun (f15 29 (by decide)) 7
    refine pe_rv d_M_escapeKey_18 ?_
    exact ⟨hB, (fun b hb => (f15 b (by simp at hb ⊢; try omega)).trans ((f10 b (by simp at hb ⊢; try omega)).trans (rfl))), (fun j hj => (o15 j (by simp at hj ⊢; try omega)).trans ((o10 j (by simp at hj ⊢; try omega)).trans (rfl))), pe_ME_g hM0 (by omega) (by omega) (by omega) ⟨by omega, by rw [show σ15 29 2 = σ 29 2 by omega]; exact hbg⟩ (by omega) ((f15 30 (by decide)).trans ((f10 30 (by decide)).trans (rfl))) ((f15 31 (by decide)).trans ((f10 31 (by decide)).trans (rfl))) ((f15 36 (by decide)).trans ((f10 36 (by decide)).trans (rfl))) ((f15 32 (by decide)).trans ((f10 32 (by decide)).trans (rfl))) ((f15 33 (by decide)).trans ((f10 33 (by decide)).trans (rfl))) ((f15 34 (by decide)).trans ((f10 34 (by decide)).trans (rfl))) ((f15 35 (by decide)).trans ((f10 35 (by decide)).trans (rfl)))⟩
  · skip
    refine pe_rv d_M_escapeKey_7 ?_
    exact ⟨hB, (fun b hb => rfl), (fun j hj => rfl), hM0⟩
theorem t_M_command {σ : pe_H} {k : Int} (hB : pe_B σ) (hM : pe_MEs σ) (hk : pe_R k) : pe_M m_M_command [pe_r 29, pe_i k] σ (pe_qv (fun σ' => pe_B σ' ∧ (∀ b, b ∉ [29, 30, 31, 32, 33, 34, 35, 36] → σ' b = σ b) ∧ (∀ j, j ∉ ([1, 2, 3, 5, 7, 6, 41] : List Int) → σ' 29 j = σ 29 j) ∧ pe_MEs σ')) := by
  refine pe_in0 (lv := [some (pe_r 29), some (pe_i k)]) ?_
  have hB0 := hB
  have hM0 := hM
  obtain ⟨hl, A30, A31, A36, ⟨hcu, hbg⟩, hma, hcl, hcg, hch, N30, N31, N36⟩ := hM
  have J41 : ∀ _u : Unit, True → pe_G m_M_command 41 [some (pe_r 29), some (pe_i k)] [] σ (pe_qv (fun σ' => pe_B σ' ∧ (∀ b, b ∉ [29, 30, 31, 32, 33, 34, 35, 36] → σ' b = σ b) ∧ (∀ j, j ∉ ([1, 2, 3, 5, 7, 6, 41] : List Int) → σ' 29 j = σ 29 j) ∧ pe_MEs σ')) := by
    intro _u hI
    refine pe_aload_n d_M_command_41 rfl ?_
    refine pe_iconst d_M_command_42 ?_
    refine pe_putiT f_M_20 g_11_6 d_M_command_43 rfl rfl 6 rfl hB (by first | exact hB _ _ | exact hB0 _ _ | exact hBt _ _ | exact ⟨by omega, by omega⟩) (fun σ43 hB e43 o43 f43 => ?_)
    try have u43_0 : σ43 29 1 = σ 29 1 := by first | exact o43 1 (by decide) | exact congrFun (f43 29 (by decide)) 1
    try have u43_1 : σ43 29 2 = σ 29 2 := by first | exact o43 2 (by decide) | exact congrFun (f43 29 (by decide)) 2
    try have u43_2 : σ43 29 3 = σ 29 3 := by first | exact o43 3 (by decide) | exact congrFun (f43 29 (by decide)) 3
    try have u43_3 : σ43 29 5 = σ 29 5 := by first | exact o43 5 (by decide) | exact congrFun (f43 29 (by decide)) 5
    try have u43_4 : σ43 29 7 = σ 29 7 := by first | exact o43 7 (by decide) | exact congrFun (f43 29 (by decide)) 7
    refine pe_iload_n d_M_command_46 rfl ?_
    refine pe_if_ne (t := 61) d_M_command_47 (by first | exact hB _ _ | exact hB0 _ _ | exact hBt _ _ | exact ⟨by omega, by omega⟩) (fun h47 => ?_) (fun h47 => ?_)
    · skip
      refine pe_iload_n d_M_command_61 rfl ?_
      refine pe_bipush d_M_command_62 ?_
      refine pe_icmp_ne (t := 74) d_M_command_64 (by first | exact hB _ _ | exact hB0 _ _ | exact hBt _ _ | exact ⟨by omega, by omega⟩) (by first | exact hB _ _ | exact hB0 _ _ | exact hBt _ _ | exact ⟨by omega, by omega⟩) (fun h64 => ?_) (fun h64 => ?_)
      · skip
        refine pe_iload_n d_M_command_74 rfl ?_
        refine pe_bipush d_M_command_75 ?_
        refine pe_icmp_ne (t := 87) d_M_command_77 (by first | exact hB _ _ | exact hB0 _ _ | exact hBt _ _ | exact ⟨by omega, by omega⟩) (by first | exact hB _ _ | exact hB0 _ _ | exact hBt _ _ | exact ⟨by omega, by omega⟩) (fun h77 => ?_) (fun h77 => ?_)
        · skip
          refine pe_iload_n d_M_command_87 rfl ?_
          refine pe_bipush d_M_command_88 ?_
          refine pe_icmp_ne (t := 100) d_M_command_90 (by first | exact hB _ _ | exact hB0 _ _ | exact hBt _ _ | exact ⟨by omega, by omega⟩) (by first | exact hB _ _ | exact hB0 _ _ | exact hBt _ _ | exact ⟨by omega, by omega⟩) (fun h90 => ?_) (fun h90 => ?_)
          · skip
            refine pe_iload_n d_M_command_100 rfl ?_
            refine pe_bipush d_M_command_101 ?_
            refine pe_icmp_ne (t := 114) d_M_command_103 (by first | exact hB _ _ | exact hB0 _ _ | exact hBt _ _ | exact ⟨by omega, by omega⟩) (by first | exact hB _ _ | exact hB0 _ _ | exact hBt _ _ | exact ⟨by omega, by omega⟩) (fun h103 => ?_) (fun h103 => ?_)
            · skip
              refine pe_aload_n d_M_command_114 rfl ?_
              refine pe_geti f_M_117 d_M_command_115 rfl rfl 2 rfl ?_
              refine pe_if_le (t := 137) d_M_command_118 (by first | exact hB _ _ | exact hB0 _ _ | exact hBt _ _ | exact ⟨by omega, by omega⟩) (fun h118 => ?_) (fun h118 => ?_)
              · skip
                refine pe_rv d_M_command_137 ?_
                first | exact ⟨hB, (fun b hb => (f43 b (by simp at hb ⊢; try omega)).trans (rfl)), (fun j hj => (o43 j (by simp at hj ⊢; try omega)).trans (rfl)), xx⟩ | exact ⟨hB, (fun b hb => (f43 b (by simp at hb ⊢; try omega)).trans (rfl)), (fun j hj => (o43 j (by simp at hj ⊢; try omega)).trans (rfl)), pe_ME_g hM0 (by omega) (by omega) (by omega) ⟨by omega, by rw [show σ43 29 2 = σ 29 2 by omega]; exact hbg⟩ (by omega) ((f43 30 (by decide)).trans (rfl)) ((f43 31 (by decide)).trans (rfl)) ((f43 36 (by decide)).trans (rfl)) ((f43 32 (by decide)).trans (rfl)) ((f43 33 (by decide)).trans (rfl)) ((f43 34 (by decide)).trans (rfl)) ((f43 35 (by decide)).trans (rfl))⟩
              · skip
                refine pe_aload_n d_M_command_121 rfl ?_
                refine pe_aload_n d_M_command_122 rfl ?_
                refine pe_aload_n d_M_command_123 rfl ?_
                refine pe_geti f_M_117 d_M_command_124 rfl rfl 2 rfl ?_
                refine pe_v1p d_M_command_127 c_M_162 i_M_before s_M_before rfl rfl (t_M_before hB (by omega) (by omega)) (fun z127 hz127 => ?_)
                refine pe_aload_n d_M_command_130 rfl ?_
                refine pe_geti f_M_117 d_M_command_131 rfl rfl 2 rfl ?_
                refine pe_v2v d_M_command_134 c_M_138 i_M_takeAway s_M_takeAway rfl rfl (t_M_takeAway hB (pe_ME_g hM0 (by omega) (by omega) (by omega) ⟨by omega, by rw [show σ43 29 2 = σ 29 2 by omega]; exact hbg⟩ (by omega) ((f43 30 (by decide)).trans (rfl)) ((f43 31 (by decide)).trans (rfl)) ((f43 36 (by decide)).trans (rfl)) ((f43 32 (by decide)).trans (rfl)) ((f43 33 (by decide)).trans (rfl)) ((f43 34 (by decide)).trans (rfl)) ((f43 35 (by decide)).trans (rfl))) (by omega)) (fun σ134 hz134 => ?_)
                obtain ⟨hB, f134, o134, x134⟩ := hz134
                try have u134_0 : σ134 29 1 = σ43 29 1 := by first | exact o134 1 (by decide) | exact congrFun (f134 29 (by decide)) 1
                try have u134_1 : σ134 29 2 = σ43 29 2 := by first | exact o134 2 (by decide) | exact congrFun (f134 29 (by decide)) 2
                try have u134_2 : σ134 29 3 = σ43 29 3 := by first | exact o134 3 (by decide) | exact congrFun (f134 29 (by decide)) 3
                try have u134_3 : σ134 29 5 = σ43 29 5 := by first | exact o134 5 (by decide) | exact congrFun (f134 29 (by decide)) 5
                try have u134_4 : σ134 29 7 = σ43 29 7 := by first | exact o134 7 (by decide) | exact congrFun (f134 29 (by decide)) 7
                have xx := x134
                refine pe_rv d_M_command_137 ?_
                first | exact ⟨hB, (fun b hb => (f134 b (by simp at hb ⊢; try omega)).trans ((f43 b (by simp at hb ⊢; try omega)).trans (rfl))), (fun j hj => (o134 j (by simp at hj ⊢; try omega)).trans ((o43 j (by simp at hj ⊢; try omega)).trans (rfl))), xx⟩ | exact ⟨hB, (fun b hb => (f134 b (by simp at hb ⊢; try omega)).trans ((f43 b (by simp at hb ⊢; try omega)).trans (rfl))), (fun j hj => (o134 j (by simp at hj ⊢; try omega)).trans ((o43 j (by simp at hj ⊢; try omega)).trans (rfl))), pe_ME_g hM0 (by omega) (by omega) (by omega) ⟨by omega, by rw [show σ134 29 2 = σ 29 2 by omega]; exact hbg⟩ (by omega) ((f134 30 (by decide)).trans ((f43 30 (by decide)).trans (rfl))) ((f134 31 (by decide)).trans ((f43 31 (by decide)).trans (rfl))) ((f134 36 (by decide)).trans ((f43 36 (by decide)).trans (rfl))) ((f134 32 (by decide)).trans ((f43 32 (by decide)).trans (rfl))) ((f134 33 (by decide)).trans ((f43 33 (by decide)).trans (rfl))) ((f134 34 (by decide)).trans ((f43 34 (by decide)).trans (rfl))) ((f134 35 (by decide)).trans ((f43 35 (by decide)).trans (rfl)))⟩
            · skip
              refine pe_aload_n d_M_command_106 rfl ?_
              refine pe_iconst d_M_command_107 ?_
              refine pe_putzT f_M_71 g_11_41 d_M_command_108 rfl rfl (by first | exact Or.inl rfl | exact Or.inr rfl | omega) 41 rfl hB (fun σ108 hB e108 o108 f108 => ?_)
              try have u108_0 : σ108 29 1 = σ43 29 1 := by first | exact o108 1 (by decide) | exact congrFun (f108 29 (by decide)) 1
              try have u108_1 : σ108 29 2 = σ43 29 2 := by first | exact o108 2 (by decide) | exact congrFun (f108 29 (by decide)) 2
              try have u108_2 : σ108 29 3 = σ43 29 3 := by first | exact o108 3 (by decide) | exact congrFun (f108 29 (by decide)) 3
              try have u108_3 : σ108 29 5 = σ43 29 5 := by first | exact o108 5 (by decide) | exact congrFun (f108 29 (by decide)) 5
              try have u108_4 : σ108 29 7 = σ43 29 7 := by first | exact o108 7 (by decide) | exact congrFun (f108 29 (by decide)) 7
              refine pe_goto (t := 137) d_M_command_111 ?_
              refine pe_rv d_M_command_137 ?_
              first | exact ⟨hB, (fun b hb => (f108 b (by simp at hb ⊢; try omega)).trans ((f43 b (by simp at hb ⊢; try omega)).trans (rfl))), (fun j hj => (o108 j (by simp at hj ⊢; try omega)).trans ((o43 j (by simp at hj ⊢; try omega)).trans (rfl))), xx⟩ | exact ⟨hB, (fun b hb => (f108 b (by simp at hb ⊢; try omega)).trans ((f43 b (by simp at hb ⊢; try omega)).trans (rfl))), (fun j hj => (o108 j (by simp at hj ⊢; try omega)).trans ((o43 j (by simp at hj ⊢; try omega)).trans (rfl))), pe_ME_g hM0 (by omega) (by omega) (by omega) ⟨by omega, by rw [show σ108 29 2 = σ 29 2 by omega]; exact hbg⟩ (by omega) ((f108 30 (by decide)).trans ((f43 30 (by decide)).trans (rfl))) ((f108 31 (by decide)).trans ((f43 31 (by decide)).trans (rfl))) ((f108 36 (by decide)).trans ((f43 36 (by decide)).trans (rfl))) ((f108 32 (by decide)).trans ((f43 32 (by decide)).trans (rfl))) ((f108 33 (by decide)).trans ((f43 33 (by decide)).trans (rfl))) ((f108 34 (by decide)).trans ((f43 34 (by decide)).trans (rfl))) ((f108 35 (by decide)).trans ((f43 35 (by decide)).trans (rfl)))⟩
          · skip
            refine pe_aload_n d_M_command_93 rfl ?_
            refine pe_v0v d_M_command_94 c_M_159 i_M_undo s_M_undo rfl rfl (t_M_undo hB (pe_ME_g hM0 (by omega) (by omega) (by omega) ⟨by omega, by rw [show σ43 29 2 = σ 29 2 by omega]; exact hbg⟩ (by omega) ((f43 30 (by decide)).trans (rfl)) ((f43 31 (by decide)).trans (rfl)) ((f43 36 (by decide)).trans (rfl)) ((f43 32 (by decide)).trans (rfl)) ((f43 33 (by decide)).trans (rfl)) ((f43 34 (by decide)).trans (rfl)) ((f43 35 (by decide)).trans (rfl)))) (fun σ94 hz94 => ?_)
            obtain ⟨hB, f94, o94, x94⟩ := hz94
            try have u94_0 : σ94 29 1 = σ43 29 1 := by first | exact o94 1 (by decide) | exact congrFun (f94 29 (by decide)) 1
            try have u94_1 : σ94 29 2 = σ43 29 2 := by first | exact o94 2 (by decide) | exact congrFun (f94 29 (by decide)) 2
            try have u94_2 : σ94 29 3 = σ43 29 3 := by first | exact o94 3 (by decide) | exact congrFun (f94 29 (by decide)) 3
            try have u94_3 : σ94 29 5 = σ43 29 5 := by first | exact o94 5 (by decide) | exact congrFun (f94 29 (by decide)) 5
            try have u94_4 : σ94 29 7 = σ43 29 7 := by first | exact o94 7 (by decide) | exact congrFun (f94 29 (by decide)) 7
            have xx := x94
            refine pe_goto (t := 137) d_M_command_97 ?_
            refine pe_rv d_M_command_137 ?_
            first | exact ⟨hB, (fun b hb => (f94 b (by simp at hb ⊢; try omega)).trans ((f43 b (by simp at hb ⊢; try omega)).trans (rfl))), (fun j hj => (o94 j (by simp at hj ⊢; try omega)).trans ((o43 j (by simp at hj ⊢; try omega)).trans (rfl))), xx⟩ | exact ⟨hB, (fun b hb => (f94 b (by simp at hb ⊢; try omega)).trans ((f43 b (by simp at hb ⊢; try omega)).trans (rfl))), (fun j hj => (o94 j (by simp at hj ⊢; try omega)).trans ((o43 j (by simp at hj ⊢; try omega)).trans (rfl))), pe_ME_g hM0 (by omega) (by omega) (by omega) ⟨by omega, by rw [show σ94 29 2 = σ 29 2 by omega]; exact hbg⟩ (by omega) ((f94 30 (by decide)).trans ((f43 30 (by decide)).trans (rfl))) ((f94 31 (by decide)).trans ((f43 31 (by decide)).trans (rfl))) ((f94 36 (by decide)).trans ((f43 36 (by decide)).trans (rfl))) ((f94 32 (by decide)).trans ((f43 32 (by decide)).trans (rfl))) ((f94 33 (by decide)).trans ((f43 33 (by decide)).trans (rfl))) ((f94 34 (by decide)).trans ((f43 34 (by decide)).trans (rfl))) ((f94 35 (by decide)).trans ((f43 35 (by decide)).trans (rfl)))⟩
        · skip
          refine pe_aload_n d_M_command_80 rfl ?_
          refine pe_v0v d_M_command_81 c_M_156 i_M_insertClip s_M_insertClip rfl rfl (t_M_insertClip hB (pe_ME_g hM0 (by omega) (by omega) (by omega) ⟨by omega, by rw [show σ43 29 2 = σ 29 2 by omega]; exact hbg⟩ (by omega) ((f43 30 (by decide)).trans (rfl)) ((f43 31 (by decide)).trans (rfl)) ((f43 36 (by decide)).trans (rfl)) ((f43 32 (by decide)).trans (rfl)) ((f43 33 (by decide)).trans (rfl)) ((f43 34 (by decide)).trans (rfl)) ((f43 35 (by decide)).trans (rfl)))) (fun σ81 hz81 => ?_)
          obtain ⟨hB, f81, o81, x81⟩ := hz81
          try have u81_0 : σ81 29 1 = σ43 29 1 := by first | exact o81 1 (by decide) | exact congrFun (f81 29 (by decide)) 1
          try have u81_1 : σ81 29 2 = σ43 29 2 := by first | exact o81 2 (by decide) | exact congrFun (f81 29 (by decide)) 2
          try have u81_2 : σ81 29 3 = σ43 29 3 := by first | exact o81 3 (by decide) | exact congrFun (f81 29 (by decide)) 3
          try have u81_3 : σ81 29 5 = σ43 29 5 := by first | exact o81 5 (by decide) | exact congrFun (f81 29 (by decide)) 5
          try have u81_4 : σ81 29 7 = σ43 29 7 := by first | exact o81 7 (by decide) | exact congrFun (f81 29 (by decide)) 7
          have xx := x81
          refine pe_goto (t := 137) d_M_command_84 ?_
          refine pe_rv d_M_command_137 ?_
          first | exact ⟨hB, (fun b hb => (f81 b (by simp at hb ⊢; try omega)).trans ((f43 b (by simp at hb ⊢; try omega)).trans (rfl))), (fun j hj => (o81 j (by simp at hj ⊢; try omega)).trans ((o43 j (by simp at hj ⊢; try omega)).trans (rfl))), xx⟩ | exact ⟨hB, (fun b hb => (f81 b (by simp at hb ⊢; try omega)).trans ((f43 b (by simp at hb ⊢; try omega)).trans (rfl))), (fun j hj => (o81 j (by simp at hj ⊢; try omega)).trans ((o43 j (by simp at hj ⊢; try omega)).trans (rfl))), pe_ME_g hM0 (by omega) (by omega) (by omega) ⟨by omega, by rw [show σ81 29 2 = σ 29 2 by omega]; exact hbg⟩ (by omega) ((f81 30 (by decide)).trans ((f43 30 (by decide)).trans (rfl))) ((f81 31 (by decide)).trans ((f43 31 (by decide)).trans (rfl))) ((f81 36 (by decide)).trans ((f43 36 (by decide)).trans (rfl))) ((f81 32 (by decide)).trans ((f43 32 (by decide)).trans (rfl))) ((f81 33 (by decide)).trans ((f43 33 (by decide)).trans (rfl))) ((f81 34 (by decide)).trans ((f43 34 (by decide)).trans (rfl))) ((f81 35 (by decide)).trans ((f43 35 (by decide)).trans (rfl)))⟩
      · skip
        refine pe_aload_n d_M_command_67 rfl ?_
        refine pe_v0v d_M_command_68 c_M_153 i_M_cutOut s_M_cutOut rfl rfl (t_M_cutOut hB (pe_ME_g hM0 (by omega) (by omega) (by omega) ⟨by omega, by rw [show σ43 29 2 = σ 29 2 by omega]; exact hbg⟩ (by omega) ((f43 30 (by decide)).trans (rfl)) ((f43 31 (by decide)).trans (rfl)) ((f43 36 (by decide)).trans (rfl)) ((f43 32 (by decide)).trans (rfl)) ((f43 33 (by decide)).trans (rfl)) ((f43 34 (by decide)).trans (rfl)) ((f43 35 (by decide)).trans (rfl)))) (fun σ68 hz68 => ?_)
        obtain ⟨hB, f68, o68, x68⟩ := hz68
        try have u68_0 : σ68 29 1 = σ43 29 1 := by first | exact o68 1 (by decide) | exact congrFun (f68 29 (by decide)) 1
        try have u68_1 : σ68 29 2 = σ43 29 2 := by first | exact o68 2 (by decide) | exact congrFun (f68 29 (by decide)) 2
        try have u68_2 : σ68 29 3 = σ43 29 3 := by first | exact o68 3 (by decide) | exact congrFun (f68 29 (by decide)) 3
        try have u68_3 : σ68 29 5 = σ43 29 5 := by first | exact o68 5 (by decide) | exact congrFun (f68 29 (by decide)) 5
        try have u68_4 : σ68 29 7 = σ43 29 7 := by first | exact o68 7 (by decide) | exact congrFun (f68 29 (by decide)) 7
        have xx := x68
        refine pe_goto (t := 137) d_M_command_71 ?_
        refine pe_rv d_M_command_137 ?_
        first | exact ⟨hB, (fun b hb => (f68 b (by simp at hb ⊢; try omega)).trans ((f43 b (by simp at hb ⊢; try omega)).trans (rfl))), (fun j hj => (o68 j (by simp at hj ⊢; try omega)).trans ((o43 j (by simp at hj ⊢; try omega)).trans (rfl))), xx⟩ | exact ⟨hB, (fun b hb => (f68 b (by simp at hb ⊢; try omega)).trans ((f43 b (by simp at hb ⊢; try omega)).trans (rfl))), (fun j hj => (o68 j (by simp at hj ⊢; try omega)).trans ((o43 j (by simp at hj ⊢; try omega)).trans (rfl))), pe_ME_g hM0 (by omega) (by omega) (by omega) ⟨by omega, by rw [show σ68 29 2 = σ 29 2 by omega]; exact hbg⟩ (by omega) ((f68 30 (by decide)).trans ((f43 30 (by decide)).trans (rfl))) ((f68 31 (by decide)).trans ((f43 31 (by decide)).trans (rfl))) ((f68 36 (by decide)).trans ((f43 36 (by decide)).trans (rfl))) ((f68 32 (by decide)).trans ((f43 32 (by decide)).trans (rfl))) ((f68 33 (by decide)).trans ((f43 33 (by decide)).trans (rfl))) ((f68 34 (by decide)).trans ((f43 34 (by decide)).trans (rfl))) ((f68 35 (by decide)).trans ((f43 35 (by decide)).trans (rfl)))⟩
    · skip
      refine pe_aload_n d_M_command_50 rfl ?_
      refine pe_aload_n d_M_command_51 rfl ?_
      refine pe_geti f_M_117 d_M_command_52 rfl rfl 2 rfl ?_
      refine pe_putiT f_M_13 g_11_3 d_M_command_55 rfl rfl 3 rfl hB (by first | exact hB _ _ | exact hB0 _ _ | exact hBt _ _ | exact ⟨by omega, by omega⟩) (fun σ55 hB e55 o55 f55 => ?_)
      try have u55_0 : σ55 29 1 = σ43 29 1 := by first | exact o55 1 (by decide) | exact congrFun (f55 29 (by decide)) 1
      try have u55_1 : σ55 29 2 = σ43 29 2 := by first | exact o55 2 (by decide) | exact congrFun (f55 29 (by decide)) 2
      try have u55_2 : σ55 29 3 = σ43 29 3 := by first | exact o55 3 (by decide) | exact congrFun (f55 29 (by decide)) 3
      try have u55_3 : σ55 29 5 = σ43 29 5 := by first | exact o55 5 (by decide) | exact congrFun (f55 29 (by decide)) 5
      try have u55_4 : σ55 29 7 = σ43 29 7 := by first | exact o55 7 (by decide) | exact congrFun (f55 29 (by decide)) 7
      refine pe_goto (t := 137) d_M_command_58 ?_
      refine pe_rv d_M_command_137 ?_
      first | exact ⟨hB, (fun b hb => (f55 b (by simp at hb ⊢; try omega)).trans ((f43 b (by simp at hb ⊢; try omega)).trans (rfl))), (fun j hj => (o55 j (by simp at hj ⊢; try omega)).trans ((o43 j (by simp at hj ⊢; try omega)).trans (rfl))), xx⟩ | exact ⟨hB, (fun b hb => (f55 b (by simp at hb ⊢; try omega)).trans ((f43 b (by simp at hb ⊢; try omega)).trans (rfl))), (fun j hj => (o55 j (by simp at hj ⊢; try omega)).trans ((o43 j (by simp at hj ⊢; try omega)).trans (rfl))), pe_ME_g hM0 (by omega) (by omega) (by omega) ⟨by omega, by rw [show σ55 29 2 = σ 29 2 by omega]; exact hbg⟩ (by omega) ((f55 30 (by decide)).trans ((f43 30 (by decide)).trans (rfl))) ((f55 31 (by decide)).trans ((f43 31 (by decide)).trans (rfl))) ((f55 36 (by decide)).trans ((f43 36 (by decide)).trans (rfl))) ((f55 32 (by decide)).trans ((f43 32 (by decide)).trans (rfl))) ((f55 33 (by decide)).trans ((f43 33 (by decide)).trans (rfl))) ((f55 34 (by decide)).trans ((f43 34 (by decide)).trans (rfl))) ((f55 35 (by decide)).trans ((f43 35 (by decide)).trans (rfl)))⟩
  refine pe_iload_n d_M_command_0 rfl ?_
  refine pe_bipush d_M_command_1 ?_
  refine pe_icmp_eq (t := 41) d_M_command_3 (by first | exact hB _ _ | exact hB0 _ _ | exact hBt _ _ | exact ⟨by omega, by omega⟩) (by first | exact hB _ _ | exact hB0 _ _ | exact hBt _ _ | exact ⟨by omega, by omega⟩) (fun h3 => ?_) (fun h3 => ?_)
  · skip
    exact J41 () trivial
  · skip
    refine pe_iload_n d_M_command_6 rfl ?_
    refine pe_bipush d_M_command_7 ?_
    refine pe_icmp_eq (t := 41) d_M_command_9 (by first | exact hB _ _ | exact hB0 _ _ | exact hBt _ _ | exact ⟨by omega, by omega⟩) (by first | exact hB _ _ | exact hB0 _ _ | exact hBt _ _ | exact ⟨by omega, by omega⟩) (fun h9 => ?_) (fun h9 => ?_)
    · skip
      exact J41 () trivial
    · skip
      refine pe_iload_n d_M_command_12 rfl ?_
      refine pe_if_eq (t := 41) d_M_command_13 (by first | exact hB _ _ | exact hB0 _ _ | exact hBt _ _ | exact ⟨by omega, by omega⟩) (fun h13 => ?_) (fun h13 => ?_)
      · skip
        exact J41 () trivial
      · skip
        refine pe_iload_n d_M_command_16 rfl ?_
        refine pe_bipush d_M_command_17 ?_
        refine pe_icmp_eq (t := 41) d_M_command_19 (by first | exact hB _ _ | exact hB0 _ _ | exact hBt _ _ | exact ⟨by omega, by omega⟩) (by first | exact hB _ _ | exact hB0 _ _ | exact hBt _ _ | exact ⟨by omega, by omega⟩) (fun h19 => ?_) (fun h19 => ?_)
        · skip
          exact J41 () trivial
        · skip
          refine pe_iload_n d_M_command_22 rfl ?_
          refine pe_bipush d_M_command_23 ?_
          refine pe_icmp_eq (t := 41) d_M_command_25 (by first | exact hB _ _ | exact hB0 _ _ | exact hBt _ _ | exact ⟨by omega, by omega⟩) (by first | exact hB _ _ | exact hB0 _ _ | exact hBt _ _ | exact ⟨by omega, by omega⟩) (fun h25 => ?_) (fun h25 => ?_)
          · skip
            exact J41 () trivial
          · skip
            refine pe_iload_n d_M_command_28 rfl ?_
            refine pe_bipush d_M_command_29 ?_
            refine pe_icmp_eq (t := 41) d_M_command_31 (by first | exact hB _ _ | exact hB0 _ _ | exact hBt _ _ | exact ⟨by omega, by omega⟩) (by first | exact hB _ _ | exact hB0 _ _ | exact hBt _ _ | exact ⟨by omega, by omega⟩) (fun h31 => ?_) (fun h31 => ?_)
            · skip
              exact J41 () trivial
            · skip
              refine pe_iload_n d_M_command_34 rfl ?_
              refine pe_bipush d_M_command_35 ?_
              refine pe_icmp_eq (t := 41) d_M_command_37 (by first | exact hB _ _ | exact hB0 _ _ | exact hBt _ _ | exact ⟨by omega, by omega⟩) (by first | exact hB _ _ | exact hB0 _ _ | exact hBt _ _ | exact ⟨by omega, by omega⟩) (fun h37 => ?_) (fun h37 => ?_)
              · skip
                exact J41 () trivial
              · skip
                refine pe_rv d_M_command_40 ?_
                exact ⟨hB, (fun b hb => rfl), (fun j hj => rfl), hM0⟩
theorem t_M_control {σ : pe_H} {k a : Int} (hB : pe_B σ) (hM : pe_MEs σ) (hk : pe_R k) (ha : pe_R a) : pe_M m_M_control [pe_r 29, pe_i k, pe_i a] σ (pe_qv (fun σ' => pe_B σ' ∧ (∀ b, b ∉ [29, 30, 31, 32, 33, 34, 35, 36] → σ' b = σ b) ∧ (∀ j, j ∉ ([1, 2, 3, 5, 7, 6, 41] : List Int) → σ' 29 j = σ 29 j) ∧ pe_MEs σ')) := by
  refine pe_in0 (lv := [some (pe_r 29), some (pe_i k), some (pe_i a)]) ?_
  have hB0 := hB
  have hM0 := hM
  obtain ⟨hl, A30, A31, A36, ⟨hcu, hbg⟩, hma, hcl, hcg, hch, N30, N31, N36⟩ := hM
  refine pe_iload_n d_M_control_0 rfl ?_
  refine pe_bipush d_M_control_1 ?_
  refine pe_icmp_ne (t := 15) d_M_control_3 (by first | exact hB _ _ | exact hB0 _ _ | exact hBt _ _ | exact ⟨by omega, by omega⟩) (by first | exact hB _ _ | exact hB0 _ _ | exact hBt _ _ | exact ⟨by omega, by omega⟩) (fun h3 => ?_) (fun h3 => ?_)
  · skip
    refine pe_iload_n d_M_control_15 rfl ?_
    refine pe_bipush d_M_control_16 ?_
    refine pe_icmp_ne (t := 30) d_M_control_18 (by first | exact hB _ _ | exact hB0 _ _ | exact hBt _ _ | exact ⟨by omega, by omega⟩) (by first | exact hB _ _ | exact hB0 _ _ | exact hBt _ _ | exact ⟨by omega, by omega⟩) (fun h18 => ?_) (fun h18 => ?_)
    · skip
      refine pe_aload_n d_M_control_30 rfl ?_
      refine pe_geti f_M_147 d_M_control_31 rfl rfl 19 rfl ?_
      refine pe_if_eq (t := 58) d_M_control_34 (by first | exact hB _ _ | exact hB0 _ _ | exact hBt _ _ | exact ⟨by omega, by omega⟩) (fun h34 => ?_) (fun h34 => ?_)
      · skip
        refine pe_aload_n d_M_control_58 rfl ?_
        refine pe_iload_n d_M_control_59 rfl ?_
        refine pe_v1v d_M_control_60 c_M_150 i_M_command s_M_command rfl rfl (t_M_command hB hM0 (by first | exact hB _ _ | exact hB0 _ _ | exact hBt _ _ | exact ⟨by omega, by omega⟩)) (fun σ60 hz60 => ?_)
        obtain ⟨hB, f60, o60, x60⟩ := hz60
        try have u60_0 : σ60 29 1 = σ 29 1 := by first | exact o60 1 (by decide) | exact congrFun (f60 29 (by decide)) 1
        try have u60_1 : σ60 29 2 = σ 29 2 := by first | exact o60 2 (by decide) | exact congrFun (f60 29 (by decide)) 2
        try have u60_2 : σ60 29 3 = σ 29 3 := by first | exact o60 3 (by decide) | exact congrFun (f60 29 (by decide)) 3
        try have u60_3 : σ60 29 5 = σ 29 5 := by first | exact o60 5 (by decide) | exact congrFun (f60 29 (by decide)) 5
        try have u60_4 : σ60 29 7 = σ 29 7 := by first | exact o60 7 (by decide) | exact congrFun (f60 29 (by decide)) 7
        have xx := x60
        refine pe_rv d_M_control_63 ?_
        first | exact ⟨hB, (fun b hb => (f60 b (by simp at hb ⊢; try omega)).trans (rfl)), (fun j hj => (o60 j (by simp at hj ⊢; try omega)).trans (rfl)), xx⟩ | exact ⟨hB, (fun b hb => (f60 b (by simp at hb ⊢; try omega)).trans (rfl)), (fun j hj => (o60 j (by simp at hj ⊢; try omega)).trans (rfl)), hM0⟩
      · skip
        refine pe_iload_n d_M_control_37 rfl ?_
        refine pe_bipush d_M_control_38 ?_
        refine pe_icmp_ne (t := 63) d_M_control_40 (by first | exact hB _ _ | exact hB0 _ _ | exact hBt _ _ | exact ⟨by omega, by omega⟩) (by first | exact hB _ _ | exact hB0 _ _ | exact hBt _ _ | exact ⟨by omega, by omega⟩) (fun h40 => ?_) (fun h40 => ?_)
        · skip
          refine pe_rv d_M_control_63 ?_
          first | exact ⟨hB, (fun b hb => rfl), (fun j hj => rfl), xx⟩ | exact ⟨hB, (fun b hb => rfl), (fun j hj => rfl), hM0⟩
        · skip
          refine pe_iload_n d_M_control_43 rfl ?_
          refine pe_bipush d_M_control_44 ?_
          refine pe_icmp_eq (t := 63) d_M_control_46 (by first | exact hB _ _ | exact hB0 _ _ | exact hBt _ _ | exact ⟨by omega, by omega⟩) (by first | exact hB _ _ | exact hB0 _ _ | exact hBt _ _ | exact ⟨by omega, by omega⟩) (fun h46 => ?_) (fun h46 => ?_)
          · skip
            refine pe_rv d_M_control_63 ?_
            first | exact ⟨hB, (fun b hb => rfl), (fun j hj => rfl), xx⟩ | exact ⟨hB, (fun b hb => rfl), (fun j hj => rfl), hM0⟩
          · skip
            refine pe_aload_n d_M_control_49 rfl ?_
            refine pe_bipush d_M_control_50 ?_
            refine pe_v1v d_M_control_52 c_M_144 i_M_character s_M_character rfl rfl (t_M_character hB hM0 (by omega)) (fun σ52 hz52 => ?_)
            obtain ⟨hB, f52, o52, x52⟩ := hz52
            try have u52_0 : σ52 29 1 = σ 29 1 := by first | exact o52 1 (by decide) | exact congrFun (f52 29 (by decide)) 1
            try have u52_1 : σ52 29 2 = σ 29 2 := by first | exact o52 2 (by decide) | exact congrFun (f52 29 (by decide)) 2
            try have u52_2 : σ52 29 3 = σ 29 3 := by first | exact o52 3 (by decide) | exact congrFun (f52 29 (by decide)) 3
            try have u52_3 : σ52 29 5 = σ 29 5 := by first | exact o52 5 (by decide) | exact congrFun (f52 29 (by decide)) 5
            try have u52_4 : σ52 29 7 = σ 29 7 := by first | exact o52 7 (by decide) | exact congrFun (f52 29 (by decide)) 7
            have xx := x52
            refine pe_goto (t := 63) d_M_control_55 ?_
            refine pe_rv d_M_control_63 ?_
            first | exact ⟨hB, (fun b hb => (f52 b (by simp at hb ⊢; try omega)).trans (rfl)), (fun j hj => (o52 j (by simp at hj ⊢; try omega)).trans (rfl)), xx⟩ | exact ⟨hB, (fun b hb => (f52 b (by simp at hb ⊢; try omega)).trans (rfl)), (fun j hj => (o52 j (by simp at hj ⊢; try omega)).trans (rfl)), hM0⟩
    · skip
      refine pe_aload_n d_M_control_21 rfl ?_
      refine pe_bipush d_M_control_22 ?_
      refine pe_v1v d_M_control_24 c_M_144 i_M_character s_M_character rfl rfl (t_M_character hB hM0 (by omega)) (fun σ24 hz24 => ?_)
      obtain ⟨hB, f24, o24, x24⟩ := hz24
      try have u24_0 : σ24 29 1 = σ 29 1 := by first | exact o24 1 (by decide) | exact congrFun (f24 29 (by decide)) 1
      try have u24_1 : σ24 29 2 = σ 29 2 := by first | exact o24 2 (by decide) | exact congrFun (f24 29 (by decide)) 2
      try have u24_2 : σ24 29 3 = σ 29 3 := by first | exact o24 3 (by decide) | exact congrFun (f24 29 (by decide)) 3
      try have u24_3 : σ24 29 5 = σ 29 5 := by first | exact o24 5 (by decide) | exact congrFun (f24 29 (by decide)) 5
      try have u24_4 : σ24 29 7 = σ 29 7 := by first | exact o24 7 (by decide) | exact congrFun (f24 29 (by decide)) 7
      have xx := x24
      refine pe_goto (t := 63) d_M_control_27 ?_
      refine pe_rv d_M_control_63 ?_
      first | exact ⟨hB, (fun b hb => (f24 b (by simp at hb ⊢; try omega)).trans (rfl)), (fun j hj => (o24 j (by simp at hj ⊢; try omega)).trans (rfl)), xx⟩ | exact ⟨hB, (fun b hb => (f24 b (by simp at hb ⊢; try omega)).trans (rfl)), (fun j hj => (o24 j (by simp at hj ⊢; try omega)).trans (rfl)), hM0⟩
  · skip
    refine pe_aload_n d_M_control_6 rfl ?_
    refine pe_bipush d_M_control_7 ?_
    refine pe_v1v d_M_control_9 c_M_144 i_M_character s_M_character rfl rfl (t_M_character hB hM0 (by omega)) (fun σ9 hz9 => ?_)
    obtain ⟨hB, f9, o9, x9⟩ := hz9
    try have u9_0 : σ9 29 1 = σ 29 1 := by first | exact o9 1 (by decide) | exact congrFun (f9 29 (by decide)) 1
    try have u9_1 : σ9 29 2 = σ 29 2 := by first | exact o9 2 (by decide) | exact congrFun (f9 29 (by decide)) 2
    try have u9_2 : σ9 29 3 = σ 29 3 := by first | exact o9 3 (by decide) | exact congrFun (f9 29 (by decide)) 3
    try have u9_3 : σ9 29 5 = σ 29 5 := by first | exact o9 5 (by decide) | exact congrFun (f9 29 (by decide)) 5
    try have u9_4 : σ9 29 7 = σ 29 7 := by first | exact o9 7 (by decide) | exact congrFun (f9 29 (by decide)) 7
    have xx := x9
    refine pe_goto (t := 63) d_M_control_12 ?_
    refine pe_rv d_M_control_63 ?_
    first | exact ⟨hB, (fun b hb => (f9 b (by simp at hb ⊢; try omega)).trans (rfl)), (fun j hj => (o9 j (by simp at hj ⊢; try omega)).trans (rfl)), xx⟩ | exact ⟨hB, (fun b hb => (f9 b (by simp at hb ⊢; try omega)).trans (rfl)), (fun j hj => (o9 j (by simp at hj ⊢; try omega)).trans (rfl)), hM0⟩
theorem pe_LO_to {m m' t ra ca wa : Int → Int} (q : pe_LO m t ra ca wa) (e1 : m' 1 = m 1) (e2 : m' 21 = m 21) (e3 : m' 26 = m 26) : pe_LO m' t ra ca wa := by
  unfold pe_LO
  rw [e1, e2, e3]
  exact q
theorem t_M_upOrDown {σ : pe_H} {k : Int} (hB : pe_B σ) (hM : pe_MEs σ) (hco : 1 ≤ σ 29 21 ∧ σ 29 21 ≤ 24) (hk : -1 ≤ k ∧ k ≤ 1) : pe_M m_M_upOrDown [pe_r 29, pe_i k] σ (pe_qv (fun σ' => pe_B σ' ∧ (∀ b, b ∉ [29, 30, 31, 32, 33, 34, 35, 36, 37, 38, 39] → σ' b = σ b) ∧ (∀ j, j ∉ ([2, 6, 26] : List Int) → σ' 29 j = σ 29 j) ∧ pe_MEs σ')) := by
  refine pe_in0 (lv := [some (pe_r 29), some (pe_i k), none, none, none, none]) ?_
  have hB0 := hB
  have hM0 := hM
  obtain ⟨hl, A30, A31, A36, ⟨hcu, hbg⟩, hma, hcl, hcg, hch, N30, N31, N36⟩ := hM
  have J63 : ∀ x : Int × Int × Int × pe_H, (pe_B x.2.2.2 ∧ (∀ b, b ∉ [29, 37, 38, 39] → x.2.2.2 b = σ b) ∧ (∀ j, j ∉ ([6, 26] : List Int) → x.2.2.2 29 j = σ 29 j) ∧ pe_LO (x.2.2.2 29) (x.2.2.2 30) (x.2.2.2 37) (x.2.2.2 38) (x.2.2.2 39) ∧ (x.2.1 = -1 ∨ (0 ≤ x.2.1 ∧ x.2.1 ≤ x.2.2.2 29 1 ∧ pe_bg (x.2.2.2 30) (x.2.2.2 29 1) x.2.1)) ∧ (x.2.1 = -1 → ∀ j, 0 ≤ j → j < x.2.2.1 → pe_bg (x.2.2.2 30) (x.2.2.2 29 1) j → x.2.2.2 37 j ≠ x.1) ∧ (0 ≤ x.2.2.1 ∧ x.2.2.1 ≤ x.2.2.2 29 1 + 1) ∧ (0 ≤ x.1 ∧ x.1 ≤ x.2.2.2 29 26)) → pe_G m_M_upOrDown 63 [some (pe_r 29), some (pe_i k), some (pe_i x.1), some (pe_i x.2.1), some (pe_i x.2.2.1), none] [] x.2.2.2 (pe_qv (fun σ' => pe_B σ' ∧ (∀ b, b ∉ [29, 30, 31, 32, 33, 34, 35, 36, 37, 38, 39] → σ' b = σ b) ∧ (∀ j, j ∉ ([2, 6, 26] : List Int) → σ' 29 j = σ 29 j) ∧ pe_MEs σ')) := by
    refine pe_loop (fun x : Int × Int × Int × pe_H => (300 - x.2.2.1).toNat) _ _ ?_
    intro x hI ih
    obtain ⟨t, b, p, τ⟩ := x
    dsimp only at hI ⊢
    obtain ⟨hB, hfr, hX⟩ := hI
    obtain ⟨hor, hLO, hbe, hno, hX⟩ := hX
    have w1 : τ 29 1 = σ 29 1 := hor 1 (by decide)
    have w2 : τ 29 2 = σ 29 2 := hor 2 (by decide)
    have w3 : τ 29 3 = σ 29 3 := hor 3 (by decide)
    have w5 : τ 29 5 = σ 29 5 := hor 5 (by decide)
    have w7 : τ 29 7 = σ 29 7 := hor 7 (by decide)
    have hbR : -1 ≤ b ∧ b ≤ 200 := by omega
    have hlast := hLO.2.1
    have hBt := hB
    refine pe_iload d_M_upOrDown_63 rfl ?_
    refine pe_aload_n d_M_upOrDown_65 rfl ?_
    refine pe_geti f_M_87 d_M_upOrDown_66 rfl rfl 1 rfl ?_
    refine pe_icmp_gt (t := 131) d_M_upOrDown_69 (by first | exact hB _ _ | exact hB0 _ _ | exact hBt _ _ | exact ⟨by omega, by omega⟩) (by first | exact hB _ _ | exact hB0 _ _ | exact hBt _ _ | exact ⟨by omega, by omega⟩) (fun h69 => ?_) (fun h69 => ?_)
    · skip
      have hb0 : b ≠ -1 := fun q => by
        obtain ⟨j, a1, a2, a3, a4⟩ := hLO.2.2 t (by omega) (by omega)
        exact hno q j a1 (by omega) a3 a4
      have hb1 := hbe.resolve_left hb0
      refine pe_aload_n d_M_upOrDown_131 rfl ?_
      refine pe_iload_n d_M_upOrDown_132 rfl ?_
      refine pe_putiT f_M_117 g_11_2 d_M_upOrDown_133 rfl rfl 2 rfl hB (by first | exact hB _ _ | exact hB0 _ _ | exact hBt _ _ | exact ⟨by omega, by omega⟩) (fun σ133 hB e133 o133 f133 => ?_)
      try have u133_0 : σ133 29 1 = τ 29 1 := by first | exact o133 1 (by decide) | exact congrFun (f133 29 (by decide)) 1
      try have u133_1 : σ133 29 2 = τ 29 2 := by first | exact o133 2 (by decide) | exact congrFun (f133 29 (by decide)) 2
      try have u133_2 : σ133 29 3 = τ 29 3 := by first | exact o133 3 (by decide) | exact congrFun (f133 29 (by decide)) 3
      try have u133_3 : σ133 29 5 = τ 29 5 := by first | exact o133 5 (by decide) | exact congrFun (f133 29 (by decide)) 5
      try have u133_4 : σ133 29 7 = τ 29 7 := by first | exact o133 7 (by decide) | exact congrFun (f133 29 (by decide)) 7
      try have u133_5 : σ133 29 21 = τ 29 21 := by first | exact o133 21 (by decide) | exact congrFun (f133 29 (by decide)) 21
      try have u133_6 : σ133 29 26 = τ 29 26 := by first | exact o133 26 (by decide) | exact congrFun (f133 29 (by decide)) 26
      refine pe_rv d_M_upOrDown_136 ?_
      exact ⟨hB, (fun b hb => (f133 b (by simp at hb ⊢; try omega)).trans (hfr b (by simp at hb ⊢; try omega))), (fun j hj => (o133 j (by simp at hj ⊢; try omega)).trans (hor j (by simp at hj ⊢; try omega))), pe_ME_g hM0 (by omega) (by omega) (by omega) ⟨by omega, by rw [show σ133 29 2 = b by omega, ← w1, ← hfr 30 (by decide)]; exact hb1.2.2⟩ (by omega) ((f133 30 (by decide)).trans (hfr 30 (by decide))) ((f133 31 (by decide)).trans (hfr 31 (by decide))) ((f133 36 (by decide)).trans (hfr 36 (by decide))) ((f133 32 (by decide)).trans (hfr 32 (by decide))) ((f133 33 (by decide)).trans (hfr 33 (by decide))) ((f133 34 (by decide)).trans (hfr 34 (by decide))) ((f133 35 (by decide)).trans (hfr 35 (by decide)))⟩
    · skip
      refine pe_aload_n d_M_upOrDown_72 rfl ?_
      refine pe_iload d_M_upOrDown_73 rfl ?_
      refine pe_v1p d_M_upOrDown_75 c_M_94 i_M_begins s_M_begins rfl rfl (t_M_begins hB (by omega) (by omega)) (fun z75 hz75 => ?_)
      refine pe_if_eq (t := 96) d_M_upOrDown_78 (by first | exact hB _ _ | exact hB0 _ _ | exact hBt _ _ | exact ⟨by omega, by omega⟩) (fun h78 => ?_) (fun h78 => ?_)
      · skip
        refine pe_iconst d_M_upOrDown_96 ?_
        refine pe_istore d_M_upOrDown_97 ?_
        refine pe_iload d_M_upOrDown_99 rfl ?_
        refine pe_if_eq (t := 125) d_M_upOrDown_101 (by first | exact hB _ _ | exact hB0 _ _ | exact hBt _ _ | exact ⟨by omega, by omega⟩) (fun h101 => ?_) (fun h101 => ?_)
        · skip
          refine pe_iinc d_M_upOrDown_125 rfl ?_
          refine pe_goto (t := 63) d_M_upOrDown_128 ?_
          (first
          | exact pe_drop 5 (ih (_, p, _, _) ⟨hB, hfr, hor, hLO, Or.inr ⟨by (try dsimp only); omega, by (try dsimp only); omega, hz75.2.mp (by omega)⟩, fun q => by (try dsimp only at q); omega, by (try dsimp only); omega, by (try dsimp only); omega⟩ (by (try dsimp only); omega))
          | exact pe_drop 5 (ih (_, b, _, _) ⟨hB, hfr, hor, hLO, hbe, fun q j h1 h2 hb => (Classical.em (j = p)).elim (fun e => by subst e; first | exact h89 | exact absurd (hz75.2.mpr hb) (by omega) | (try dsimp only at q); omega) (fun e => hno q j h1 (by (try dsimp only at *); omega) hb), by (try dsimp only); omega, by (try dsimp only); omega⟩ (by (try dsimp only); omega)))
        · skip
          refine pe_iload_n d_M_upOrDown_104 rfl ?_
          refine pe_if_lt (t := 122) d_M_upOrDown_105 (by first | exact hB _ _ | exact hB0 _ _ | exact hBt _ _ | exact ⟨by omega, by omega⟩) (fun h105 => ?_) (fun h105 => ?_)
          · skip
            refine pe_iload d_M_upOrDown_122 rfl ?_
            refine pe_istore_n d_M_upOrDown_124 ?_
            refine pe_iinc d_M_upOrDown_125 rfl ?_
            refine pe_goto (t := 63) d_M_upOrDown_128 ?_
            (first
            | exact pe_drop 5 (ih (_, p, _, _) ⟨hB, hfr, hor, hLO, Or.inr ⟨by (try dsimp only); omega, by (try dsimp only); omega, hz75.2.mp (by omega)⟩, fun q => by (try dsimp only at q); omega, by (try dsimp only); omega, by (try dsimp only); omega⟩ (by (try dsimp only); omega))
            | exact pe_drop 5 (ih (_, b, _, _) ⟨hB, hfr, hor, hLO, hbe, fun q j h1 h2 hb => (Classical.em (j = p)).elim (fun e => by subst e; first | exact h89 | exact absurd (hz75.2.mpr hb) (by omega) | (try dsimp only at q); omega) (fun e => hno q j h1 (by (try dsimp only at *); omega) hb), by (try dsimp only); omega, by (try dsimp only); omega⟩ (by (try dsimp only); omega)))
          · skip
            refine pe_aload_n d_M_upOrDown_108 rfl ?_
            refine pe_getr f_M_44 d_M_upOrDown_109 rfl rfl ?_
            refine pe_iload d_M_upOrDown_112 rfl ?_
            refine pe_iald d_M_upOrDown_114 rfl (by omega) (by omega) ?_
            refine pe_aload_n d_M_upOrDown_115 rfl ?_
            refine pe_geti f_M_20 d_M_upOrDown_116 rfl rfl 6 rfl ?_
            refine pe_icmp_gt (t := 125) d_M_upOrDown_119 (by first | exact hB _ _ | exact hB0 _ _ | exact hBt _ _ | exact ⟨by omega, by omega⟩) (by first | exact hB _ _ | exact hB0 _ _ | exact hBt _ _ | exact ⟨by omega, by omega⟩) (fun h119 => ?_) (fun h119 => ?_)
            · skip
              refine pe_iinc d_M_upOrDown_125 rfl ?_
              refine pe_goto (t := 63) d_M_upOrDown_128 ?_
              (first
              | exact pe_drop 5 (ih (_, p, _, _) ⟨hB, hfr, hor, hLO, Or.inr ⟨by (try dsimp only); omega, by (try dsimp only); omega, hz75.2.mp (by omega)⟩, fun q => by (try dsimp only at q); omega, by (try dsimp only); omega, by (try dsimp only); omega⟩ (by (try dsimp only); omega))
              | exact pe_drop 5 (ih (_, b, _, _) ⟨hB, hfr, hor, hLO, hbe, fun q j h1 h2 hb => (Classical.em (j = p)).elim (fun e => by subst e; first | exact h89 | exact absurd (hz75.2.mpr hb) (by omega) | (try dsimp only at q); omega) (fun e => hno q j h1 (by (try dsimp only at *); omega) hb), by (try dsimp only); omega, by (try dsimp only); omega⟩ (by (try dsimp only); omega)))
            · skip
              refine pe_iload d_M_upOrDown_122 rfl ?_
              refine pe_istore_n d_M_upOrDown_124 ?_
              refine pe_iinc d_M_upOrDown_125 rfl ?_
              refine pe_goto (t := 63) d_M_upOrDown_128 ?_
              (first
              | exact pe_drop 5 (ih (_, p, _, _) ⟨hB, hfr, hor, hLO, Or.inr ⟨by (try dsimp only); omega, by (try dsimp only); omega, hz75.2.mp (by omega)⟩, fun q => by (try dsimp only at q); omega, by (try dsimp only); omega, by (try dsimp only); omega⟩ (by (try dsimp only); omega))
              | exact pe_drop 5 (ih (_, b, _, _) ⟨hB, hfr, hor, hLO, hbe, fun q j h1 h2 hb => (Classical.em (j = p)).elim (fun e => by subst e; first | exact h89 | exact absurd (hz75.2.mpr hb) (by omega) | (try dsimp only at q); omega) (fun e => hno q j h1 (by (try dsimp only at *); omega) hb), by (try dsimp only); omega, by (try dsimp only); omega⟩ (by (try dsimp only); omega)))
      · skip
        refine pe_aload_n d_M_upOrDown_81 rfl ?_
        refine pe_getr f_M_41 d_M_upOrDown_82 rfl rfl ?_
        refine pe_iload d_M_upOrDown_85 rfl ?_
        refine pe_iald d_M_upOrDown_87 rfl (by omega) (by omega) ?_
        refine pe_iload_n d_M_upOrDown_88 rfl ?_
        refine pe_icmp_ne (t := 96) d_M_upOrDown_89 (by first | exact hB _ _ | exact hB0 _ _ | exact hBt _ _ | exact ⟨by omega, by omega⟩) (by first | exact hB _ _ | exact hB0 _ _ | exact hBt _ _ | exact ⟨by omega, by omega⟩) (fun h89 => ?_) (fun h89 => ?_)
        · skip
          refine pe_iconst d_M_upOrDown_96 ?_
          refine pe_istore d_M_upOrDown_97 ?_
          refine pe_iload d_M_upOrDown_99 rfl ?_
          refine pe_if_eq (t := 125) d_M_upOrDown_101 (by first | exact hB _ _ | exact hB0 _ _ | exact hBt _ _ | exact ⟨by omega, by omega⟩) (fun h101 => ?_) (fun h101 => ?_)
          · skip
            refine pe_iinc d_M_upOrDown_125 rfl ?_
            refine pe_goto (t := 63) d_M_upOrDown_128 ?_
            (first
            | exact pe_drop 5 (ih (_, p, _, _) ⟨hB, hfr, hor, hLO, Or.inr ⟨by (try dsimp only); omega, by (try dsimp only); omega, hz75.2.mp (by omega)⟩, fun q => by (try dsimp only at q); omega, by (try dsimp only); omega, by (try dsimp only); omega⟩ (by (try dsimp only); omega))
            | exact pe_drop 5 (ih (_, b, _, _) ⟨hB, hfr, hor, hLO, hbe, fun q j h1 h2 hb => (Classical.em (j = p)).elim (fun e => by subst e; first | exact h89 | exact absurd (hz75.2.mpr hb) (by omega) | (try dsimp only at q); omega) (fun e => hno q j h1 (by (try dsimp only at *); omega) hb), by (try dsimp only); omega, by (try dsimp only); omega⟩ (by (try dsimp only); omega)))
          · skip
            refine pe_iload_n d_M_upOrDown_104 rfl ?_
            refine pe_if_lt (t := 122) d_M_upOrDown_105 (by first | exact hB _ _ | exact hB0 _ _ | exact hBt _ _ | exact ⟨by omega, by omega⟩) (fun h105 => ?_) (fun h105 => ?_)
            · skip
              refine pe_iload d_M_upOrDown_122 rfl ?_
              refine pe_istore_n d_M_upOrDown_124 ?_
              refine pe_iinc d_M_upOrDown_125 rfl ?_
              refine pe_goto (t := 63) d_M_upOrDown_128 ?_
              (first
              | exact pe_drop 5 (ih (_, p, _, _) ⟨hB, hfr, hor, hLO, Or.inr ⟨by (try dsimp only); omega, by (try dsimp only); omega, hz75.2.mp (by omega)⟩, fun q => by (try dsimp only at q); omega, by (try dsimp only); omega, by (try dsimp only); omega⟩ (by (try dsimp only); omega))
              | exact pe_drop 5 (ih (_, b, _, _) ⟨hB, hfr, hor, hLO, hbe, fun q j h1 h2 hb => (Classical.em (j = p)).elim (fun e => by subst e; first | exact h89 | exact absurd (hz75.2.mpr hb) (by omega) | (try dsimp only at q); omega) (fun e => hno q j h1 (by (try dsimp only at *); omega) hb), by (try dsimp only); omega, by (try dsimp only); omega⟩ (by (try dsimp only); omega)))
            · skip
              refine pe_aload_n d_M_upOrDown_108 rfl ?_
              refine pe_getr f_M_44 d_M_upOrDown_109 rfl rfl ?_
              refine pe_iload d_M_upOrDown_112 rfl ?_
              refine pe_iald d_M_upOrDown_114 rfl (by omega) (by omega) ?_
              refine pe_aload_n d_M_upOrDown_115 rfl ?_
              refine pe_geti f_M_20 d_M_upOrDown_116 rfl rfl 6 rfl ?_
              refine pe_icmp_gt (t := 125) d_M_upOrDown_119 (by first | exact hB _ _ | exact hB0 _ _ | exact hBt _ _ | exact ⟨by omega, by omega⟩) (by first | exact hB _ _ | exact hB0 _ _ | exact hBt _ _ | exact ⟨by omega, by omega⟩) (fun h119 => ?_) (fun h119 => ?_)
              · skip
                refine pe_iinc d_M_upOrDown_125 rfl ?_
                refine pe_goto (t := 63) d_M_upOrDown_128 ?_
                (first
                | exact pe_drop 5 (ih (_, p, _, _) ⟨hB, hfr, hor, hLO, Or.inr ⟨by (try dsimp only); omega, by (try dsimp only); omega, hz75.2.mp (by omega)⟩, fun q => by (try dsimp only at q); omega, by (try dsimp only); omega, by (try dsimp only); omega⟩ (by (try dsimp only); omega))
                | exact pe_drop 5 (ih (_, b, _, _) ⟨hB, hfr, hor, hLO, hbe, fun q j h1 h2 hb => (Classical.em (j = p)).elim (fun e => by subst e; first | exact h89 | exact absurd (hz75.2.mpr hb) (by omega) | (try dsimp only at q); omega) (fun e => hno q j h1 (by (try dsimp only at *); omega) hb), by (try dsimp only); omega, by (try dsimp only); omega⟩ (by (try dsimp only); omega)))
              · skip
                refine pe_iload d_M_upOrDown_122 rfl ?_
                refine pe_istore_n d_M_upOrDown_124 ?_
                refine pe_iinc d_M_upOrDown_125 rfl ?_
                refine pe_goto (t := 63) d_M_upOrDown_128 ?_
                (first
                | exact pe_drop 5 (ih (_, p, _, _) ⟨hB, hfr, hor, hLO, Or.inr ⟨by (try dsimp only); omega, by (try dsimp only); omega, hz75.2.mp (by omega)⟩, fun q => by (try dsimp only at q); omega, by (try dsimp only); omega, by (try dsimp only); omega⟩ (by (try dsimp only); omega))
                | exact pe_drop 5 (ih (_, b, _, _) ⟨hB, hfr, hor, hLO, hbe, fun q j h1 h2 hb => (Classical.em (j = p)).elim (fun e => by subst e; first | exact h89 | exact absurd (hz75.2.mpr hb) (by omega) | (try dsimp only at q); omega) (fun e => hno q j h1 (by (try dsimp only at *); omega) hb), by (try dsimp only); omega, by (try dsimp only); omega⟩ (by (try dsimp only); omega)))
        · skip
          refine pe_iconst d_M_upOrDown_92 ?_
          refine pe_goto (t := 97) d_M_upOrDown_93 ?_
          refine pe_istore d_M_upOrDown_97 ?_
          refine pe_iload d_M_upOrDown_99 rfl ?_
          refine pe_if_eq (t := 125) d_M_upOrDown_101 (by first | exact hB _ _ | exact hB0 _ _ | exact hBt _ _ | exact ⟨by omega, by omega⟩) (fun h101 => ?_) (fun h101 => ?_)
          · skip
            refine pe_iinc d_M_upOrDown_125 rfl ?_
            refine pe_goto (t := 63) d_M_upOrDown_128 ?_
            (first
            | exact pe_drop 5 (ih (_, p, _, _) ⟨hB, hfr, hor, hLO, Or.inr ⟨by (try dsimp only); omega, by (try dsimp only); omega, hz75.2.mp (by omega)⟩, fun q => by (try dsimp only at q); omega, by (try dsimp only); omega, by (try dsimp only); omega⟩ (by (try dsimp only); omega))
            | exact pe_drop 5 (ih (_, b, _, _) ⟨hB, hfr, hor, hLO, hbe, fun q j h1 h2 hb => (Classical.em (j = p)).elim (fun e => by subst e; first | exact h89 | exact absurd (hz75.2.mpr hb) (by omega) | (try dsimp only at q); omega) (fun e => hno q j h1 (by (try dsimp only at *); omega) hb), by (try dsimp only); omega, by (try dsimp only); omega⟩ (by (try dsimp only); omega)))
          · skip
            refine pe_iload_n d_M_upOrDown_104 rfl ?_
            refine pe_if_lt (t := 122) d_M_upOrDown_105 (by first | exact hB _ _ | exact hB0 _ _ | exact hBt _ _ | exact ⟨by omega, by omega⟩) (fun h105 => ?_) (fun h105 => ?_)
            · skip
              refine pe_iload d_M_upOrDown_122 rfl ?_
              refine pe_istore_n d_M_upOrDown_124 ?_
              refine pe_iinc d_M_upOrDown_125 rfl ?_
              refine pe_goto (t := 63) d_M_upOrDown_128 ?_
              (first
              | exact pe_drop 5 (ih (_, p, _, _) ⟨hB, hfr, hor, hLO, Or.inr ⟨by (try dsimp only); omega, by (try dsimp only); omega, hz75.2.mp (by omega)⟩, fun q => by (try dsimp only at q); omega, by (try dsimp only); omega, by (try dsimp only); omega⟩ (by (try dsimp only); omega))
              | exact pe_drop 5 (ih (_, b, _, _) ⟨hB, hfr, hor, hLO, hbe, fun q j h1 h2 hb => (Classical.em (j = p)).elim (fun e => by subst e; first | exact h89 | exact absurd (hz75.2.mpr hb) (by omega) | (try dsimp only at q); omega) (fun e => hno q j h1 (by (try dsimp only at *); omega) hb), by (try dsimp only); omega, by (try dsimp only); omega⟩ (by (try dsimp only); omega)))
            · skip
              refine pe_aload_n d_M_upOrDown_108 rfl ?_
              refine pe_getr f_M_44 d_M_upOrDown_109 rfl rfl ?_
              refine pe_iload d_M_upOrDown_112 rfl ?_
              refine pe_iald d_M_upOrDown_114 rfl (by omega) (by omega) ?_
              refine pe_aload_n d_M_upOrDown_115 rfl ?_
              refine pe_geti f_M_20 d_M_upOrDown_116 rfl rfl 6 rfl ?_
              refine pe_icmp_gt (t := 125) d_M_upOrDown_119 (by first | exact hB _ _ | exact hB0 _ _ | exact hBt _ _ | exact ⟨by omega, by omega⟩) (by first | exact hB _ _ | exact hB0 _ _ | exact hBt _ _ | exact ⟨by omega, by omega⟩) (fun h119 => ?_) (fun h119 => ?_)
              · skip
                refine pe_iinc d_M_upOrDown_125 rfl ?_
                refine pe_goto (t := 63) d_M_upOrDown_128 ?_
                (first
                | exact pe_drop 5 (ih (_, p, _, _) ⟨hB, hfr, hor, hLO, Or.inr ⟨by (try dsimp only); omega, by (try dsimp only); omega, hz75.2.mp (by omega)⟩, fun q => by (try dsimp only at q); omega, by (try dsimp only); omega, by (try dsimp only); omega⟩ (by (try dsimp only); omega))
                | exact pe_drop 5 (ih (_, b, _, _) ⟨hB, hfr, hor, hLO, hbe, fun q j h1 h2 hb => (Classical.em (j = p)).elim (fun e => by subst e; first | exact h89 | exact absurd (hz75.2.mpr hb) (by omega) | (try dsimp only at q); omega) (fun e => hno q j h1 (by (try dsimp only at *); omega) hb), by (try dsimp only); omega, by (try dsimp only); omega⟩ (by (try dsimp only); omega)))
              · skip
                refine pe_iload d_M_upOrDown_122 rfl ?_
                refine pe_istore_n d_M_upOrDown_124 ?_
                refine pe_iinc d_M_upOrDown_125 rfl ?_
                refine pe_goto (t := 63) d_M_upOrDown_128 ?_
                (first
                | exact pe_drop 5 (ih (_, p, _, _) ⟨hB, hfr, hor, hLO, Or.inr ⟨by (try dsimp only); omega, by (try dsimp only); omega, hz75.2.mp (by omega)⟩, fun q => by (try dsimp only at q); omega, by (try dsimp only); omega, by (try dsimp only); omega⟩ (by (try dsimp only); omega))
                | exact pe_drop 5 (ih (_, b, _, _) ⟨hB, hfr, hor, hLO, hbe, fun q j h1 h2 hb => (Classical.em (j = p)).elim (fun e => by subst e; first | exact h89 | exact absurd (hz75.2.mpr hb) (by omega) | (try dsimp only at q); omega) (fun e => hno q j h1 (by (try dsimp only at *); omega) hb), by (try dsimp only); omega, by (try dsimp only); omega⟩ (by (try dsimp only); omega)))
  refine pe_aload_n d_M_upOrDown_0 rfl ?_
  refine pe_geti f_M_78 d_M_upOrDown_1 rfl rfl 21 rfl ?_
  refine pe_iconst d_M_upOrDown_4 ?_
  refine pe_icmp_ge (t := 9) d_M_upOrDown_5 (by first | exact hB _ _ | exact hB0 _ _ | exact hBt _ _ | exact ⟨by omega, by omega⟩) (by first | exact hB _ _ | exact hB0 _ _ | exact hBt _ _ | exact ⟨by omega, by omega⟩) (fun h5 => ?_) (fun h5 => ?_)
  · skip
    refine pe_aload_n d_M_upOrDown_9 rfl ?_
    refine pe_v0v d_M_upOrDown_10 c_M_165 i_M_layOut s_M_layOut rfl rfl (t_M_layOut hB (by omega) (by omega)) (fun σ10 hz10 => ?_)
    obtain ⟨hB, f10, o10, x10⟩ := hz10
    try have u10_0 : σ10 29 1 = σ 29 1 := by first | exact o10 1 (by decide) | exact congrFun (f10 29 (by decide)) 1
    try have u10_1 : σ10 29 2 = σ 29 2 := by first | exact o10 2 (by decide) | exact congrFun (f10 29 (by decide)) 2
    try have u10_2 : σ10 29 3 = σ 29 3 := by first | exact o10 3 (by decide) | exact congrFun (f10 29 (by decide)) 3
    try have u10_3 : σ10 29 5 = σ 29 5 := by first | exact o10 5 (by decide) | exact congrFun (f10 29 (by decide)) 5
    try have u10_4 : σ10 29 7 = σ 29 7 := by first | exact o10 7 (by decide) | exact congrFun (f10 29 (by decide)) 7
    try have u10_5 : σ10 29 21 = σ 29 21 := by first | exact o10 21 (by decide) | exact congrFun (f10 29 (by decide)) 21
    try have u10_6 : σ10 29 26 = σ 29 26 := by first | exact o10 26 (by decide) | exact congrFun (f10 29 (by decide)) 26
    have lo := x10.1 (σ10 29 2) (by omega) (by omega) (by rw [show σ10 29 1 = σ 29 1 by omega, show σ10 29 2 = σ 29 2 by omega, f10 30 (by decide)]; exact hbg)
    refine pe_aload_n d_M_upOrDown_13 rfl ?_
    refine pe_getr f_M_41 d_M_upOrDown_14 rfl rfl ?_
    refine pe_aload_n d_M_upOrDown_17 rfl ?_
    refine pe_geti f_M_117 d_M_upOrDown_18 rfl rfl 2 rfl ?_
    refine pe_iald d_M_upOrDown_21 rfl (by omega) (by omega) ?_
    refine pe_iload_n d_M_upOrDown_22 rfl ?_
    refine pe_iadd d_M_upOrDown_23 ?_
    refine pe_istore_n d_M_upOrDown_24 ?_
    refine pe_aload_n d_M_upOrDown_25 rfl ?_
    refine pe_geti f_M_20 d_M_upOrDown_26 rfl rfl 6 rfl ?_
    refine pe_if_ge (t := 45) d_M_upOrDown_29 (by first | exact hB _ _ | exact hB0 _ _ | exact hBt _ _ | exact ⟨by omega, by omega⟩) (fun h29 => ?_) (fun h29 => ?_)
    · skip
      have hg : True := trivial
      refine pe_iload_n d_M_upOrDown_45 rfl ?_
      refine pe_if_lt (t := 57) d_M_upOrDown_46 (by first | exact hB _ _ | exact hB0 _ _ | exact hBt _ _ | exact ⟨by omega, by omega⟩) (fun h46 => ?_) (fun h46 => ?_)
      · skip
        refine pe_rv d_M_upOrDown_57 ?_
        exact ⟨hB, (fun b hb => (f10 b (by simp at hb ⊢; try omega)).trans (rfl)), (fun j hj => (o10 j (by simp at hj ⊢; try omega)).trans (rfl)), pe_ME_g hM0 (by omega) (by omega) (by omega) ⟨by omega, by rw [show σ10 29 2 = σ 29 2 by omega]; exact hbg⟩ (by omega) ((f10 30 (by decide)).trans (rfl)) ((f10 31 (by decide)).trans (rfl)) ((f10 36 (by decide)).trans (rfl)) ((f10 32 (by decide)).trans (rfl)) ((f10 33 (by decide)).trans (rfl)) ((f10 34 (by decide)).trans (rfl)) ((f10 35 (by decide)).trans (rfl))⟩
      · skip
        refine pe_iload_n d_M_upOrDown_49 rfl ?_
        refine pe_aload_n d_M_upOrDown_50 rfl ?_
        refine pe_geti f_M_104 d_M_upOrDown_51 rfl rfl 26 rfl ?_
        refine pe_icmp_le (t := 58) d_M_upOrDown_54 (by first | exact hB _ _ | exact hB0 _ _ | exact hBt _ _ | exact ⟨by omega, by omega⟩) (by first | exact hB _ _ | exact hB0 _ _ | exact hBt _ _ | exact ⟨by omega, by omega⟩) (fun h54 => ?_) (fun h54 => ?_)
        · skip
          refine pe_iconst d_M_upOrDown_58 ?_
          refine pe_istore_n d_M_upOrDown_59 ?_
          refine pe_iconst d_M_upOrDown_60 ?_
          refine pe_istore d_M_upOrDown_61 ?_
          exact J63 (_, _, _, _) ⟨hB, (fun b hb => (f10 b (by simp at hb ⊢; try omega)).trans (rfl)), (fun j hj => (o10 j (by simp at hj ⊢; try omega)).trans (rfl)), by (try dsimp only); rw [show σ10 30 = σ10 30 from (rfl), show σ10 37 = σ10 37 from (rfl), show σ10 38 = σ10 38 from (rfl), show σ10 39 = σ10 39 from (rfl)]; exact pe_LO_to x10 (by omega) (by omega) (by omega), Or.inl rfl, fun _ j h1 h2 => by (try dsimp only at *); omega, by (try dsimp only); omega, by (try dsimp only); omega⟩
        · skip
          refine pe_rv d_M_upOrDown_57 ?_
          exact ⟨hB, (fun b hb => (f10 b (by simp at hb ⊢; try omega)).trans (rfl)), (fun j hj => (o10 j (by simp at hj ⊢; try omega)).trans (rfl)), pe_ME_g hM0 (by omega) (by omega) (by omega) ⟨by omega, by rw [show σ10 29 2 = σ 29 2 by omega]; exact hbg⟩ (by omega) ((f10 30 (by decide)).trans (rfl)) ((f10 31 (by decide)).trans (rfl)) ((f10 36 (by decide)).trans (rfl)) ((f10 32 (by decide)).trans (rfl)) ((f10 33 (by decide)).trans (rfl)) ((f10 34 (by decide)).trans (rfl)) ((f10 35 (by decide)).trans (rfl))⟩
    · skip
      refine pe_aload_n d_M_upOrDown_32 rfl ?_
      refine pe_aload_n d_M_upOrDown_33 rfl ?_
      refine pe_getr f_M_44 d_M_upOrDown_34 rfl rfl ?_
      refine pe_aload_n d_M_upOrDown_37 rfl ?_
      refine pe_geti f_M_117 d_M_upOrDown_38 rfl rfl 2 rfl ?_
      refine pe_iald d_M_upOrDown_41 rfl (by omega) (by omega) ?_
      refine pe_putiT f_M_20 g_11_6 d_M_upOrDown_42 rfl rfl 6 rfl hB (by first | exact hB _ _ | exact hB0 _ _ | exact hBt _ _ | exact ⟨by omega, by omega⟩) (fun σ42 hB e42 o42 f42 => ?_)
      try have u42_0 : σ42 29 1 = σ10 29 1 := by first | exact o42 1 (by decide) | exact congrFun (f42 29 (by decide)) 1
      try have u42_1 : σ42 29 2 = σ10 29 2 := by first | exact o42 2 (by decide) | exact congrFun (f42 29 (by decide)) 2
      try have u42_2 : σ42 29 3 = σ10 29 3 := by first | exact o42 3 (by decide) | exact congrFun (f42 29 (by decide)) 3
      try have u42_3 : σ42 29 5 = σ10 29 5 := by first | exact o42 5 (by decide) | exact congrFun (f42 29 (by decide)) 5
      try have u42_4 : σ42 29 7 = σ10 29 7 := by first | exact o42 7 (by decide) | exact congrFun (f42 29 (by decide)) 7
      try have u42_5 : σ42 29 21 = σ10 29 21 := by first | exact o42 21 (by decide) | exact congrFun (f42 29 (by decide)) 21
      try have u42_6 : σ42 29 26 = σ10 29 26 := by first | exact o42 26 (by decide) | exact congrFun (f42 29 (by decide)) 26
      have hg : True := trivial
      refine pe_iload_n d_M_upOrDown_45 rfl ?_
      refine pe_if_lt (t := 57) d_M_upOrDown_46 (by first | exact hB _ _ | exact hB0 _ _ | exact hBt _ _ | exact ⟨by omega, by omega⟩) (fun h46 => ?_) (fun h46 => ?_)
      · skip
        refine pe_rv d_M_upOrDown_57 ?_
        exact ⟨hB, (fun b hb => (f42 b (by simp at hb ⊢; try omega)).trans ((f10 b (by simp at hb ⊢; try omega)).trans (rfl))), (fun j hj => (o42 j (by simp at hj ⊢; try omega)).trans ((o10 j (by simp at hj ⊢; try omega)).trans (rfl))), pe_ME_g hM0 (by omega) (by omega) (by omega) ⟨by omega, by rw [show σ42 29 2 = σ 29 2 by omega]; exact hbg⟩ (by omega) ((f42 30 (by decide)).trans ((f10 30 (by decide)).trans (rfl))) ((f42 31 (by decide)).trans ((f10 31 (by decide)).trans (rfl))) ((f42 36 (by decide)).trans ((f10 36 (by decide)).trans (rfl))) ((f42 32 (by decide)).trans ((f10 32 (by decide)).trans (rfl))) ((f42 33 (by decide)).trans ((f10 33 (by decide)).trans (rfl))) ((f42 34 (by decide)).trans ((f10 34 (by decide)).trans (rfl))) ((f42 35 (by decide)).trans ((f10 35 (by decide)).trans (rfl)))⟩
      · skip
        refine pe_iload_n d_M_upOrDown_49 rfl ?_
        refine pe_aload_n d_M_upOrDown_50 rfl ?_
        refine pe_geti f_M_104 d_M_upOrDown_51 rfl rfl 26 rfl ?_
        refine pe_icmp_le (t := 58) d_M_upOrDown_54 (by first | exact hB _ _ | exact hB0 _ _ | exact hBt _ _ | exact ⟨by omega, by omega⟩) (by first | exact hB _ _ | exact hB0 _ _ | exact hBt _ _ | exact ⟨by omega, by omega⟩) (fun h54 => ?_) (fun h54 => ?_)
        · skip
          refine pe_iconst d_M_upOrDown_58 ?_
          refine pe_istore_n d_M_upOrDown_59 ?_
          refine pe_iconst d_M_upOrDown_60 ?_
          refine pe_istore d_M_upOrDown_61 ?_
          exact J63 (_, _, _, _) ⟨hB, (fun b hb => (f42 b (by simp at hb ⊢; try omega)).trans ((f10 b (by simp at hb ⊢; try omega)).trans (rfl))), (fun j hj => (o42 j (by simp at hj ⊢; try omega)).trans ((o10 j (by simp at hj ⊢; try omega)).trans (rfl))), by (try dsimp only); rw [show σ42 30 = σ10 30 from ((f42 30 (by decide)).trans (rfl)), show σ42 37 = σ10 37 from ((f42 37 (by decide)).trans (rfl)), show σ42 38 = σ10 38 from ((f42 38 (by decide)).trans (rfl)), show σ42 39 = σ10 39 from ((f42 39 (by decide)).trans (rfl))]; exact pe_LO_to x10 (by omega) (by omega) (by omega), Or.inl rfl, fun _ j h1 h2 => by (try dsimp only at *); omega, by (try dsimp only); omega, by (try dsimp only); omega⟩
        · skip
          refine pe_rv d_M_upOrDown_57 ?_
          exact ⟨hB, (fun b hb => (f42 b (by simp at hb ⊢; try omega)).trans ((f10 b (by simp at hb ⊢; try omega)).trans (rfl))), (fun j hj => (o42 j (by simp at hj ⊢; try omega)).trans ((o10 j (by simp at hj ⊢; try omega)).trans (rfl))), pe_ME_g hM0 (by omega) (by omega) (by omega) ⟨by omega, by rw [show σ42 29 2 = σ 29 2 by omega]; exact hbg⟩ (by omega) ((f42 30 (by decide)).trans ((f10 30 (by decide)).trans (rfl))) ((f42 31 (by decide)).trans ((f10 31 (by decide)).trans (rfl))) ((f42 36 (by decide)).trans ((f10 36 (by decide)).trans (rfl))) ((f42 32 (by decide)).trans ((f10 32 (by decide)).trans (rfl))) ((f42 33 (by decide)).trans ((f10 33 (by decide)).trans (rfl))) ((f42 34 (by decide)).trans ((f10 34 (by decide)).trans (rfl))) ((f42 35 (by decide)).trans ((f10 35 (by decide)).trans (rfl)))⟩
  · skip
    refine pe_rv d_M_upOrDown_8 ?_
    exact ⟨hB, (fun b hb => rfl), (fun j hj => rfl), hM0⟩
