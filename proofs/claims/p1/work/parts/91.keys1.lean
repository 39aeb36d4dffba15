/-! p1: the class's keys keep to the model -/
theorem pe_LX_e {t : Int → Int} {n c p : Int} {R C R' C' : Int → Int} (h : pe_LX t n c R C p) (e1 : R' = R) (e2 : C' = C) : pe_LX t n c R' C' p := by rw [e1, e2]; exact h
theorem pe_ca_cur {m σ σ' : pe_H} {z : Int} (hA : pe_ca m σ) (f : ∀ b, b ≠ 2 → σ' b = σ b) (o : ∀ j, j ≠ 7 → σ' 2 j = σ 2 j) (e : σ' 2 7 = z) : pe_ca (pe_eS m 1 z) σ' := by
  obtain ⟨⟨⟨a1, a2, a3, a4, a5⟩, a6, a8, a9⟩, A⟩ := id hA
  exact pe_ca_2 hA (fun b hb => f b (by rintro rfl; simp at hb)) ⟨⟨rfl, rfl, rfl, rfl⟩, rfl, rfl, rfl, rfl, rfl, rfl, rfl⟩ ⟨e, (o 8 (by decide)).trans a3, (o 5 (by decide)).trans a4, (o 9 (by decide)).trans a5, (o 10 (by decide)).trans a8, (o 6 (by decide)).trans a9⟩
theorem pe_ca_mk {m σ σ' : pe_H} {z : Int} (hA : pe_ca m σ) (f : ∀ b, b ≠ 2 → σ' b = σ b) (o : ∀ j, j ≠ 8 → σ' 2 j = σ 2 j) (e : σ' 2 8 = z) : pe_ca (pe_eS m 2 z) σ' := by
  obtain ⟨⟨⟨a1, a2, a3, a4, a5⟩, a6, a8, a9⟩, A⟩ := id hA
  exact pe_ca_2 hA (fun b hb => f b (by rintro rfl; simp at hb)) ⟨⟨rfl, rfl, rfl, rfl⟩, rfl, rfl, rfl, rfl, rfl, rfl, rfl⟩ ⟨(o 7 (by decide)).trans a2, e, (o 5 (by decide)).trans a4, (o 9 (by decide)).trans a5, (o 10 (by decide)).trans a8, (o 6 (by decide)).trans a9⟩
theorem pe_ca_gl {m σ σ' : pe_H} {z : Int} (hA : pe_ca m σ) (f : ∀ b, b ≠ 2 → σ' b = σ b) (o : ∀ j, j ≠ 9 → σ' 2 j = σ 2 j) (e : σ' 2 9 = z) : pe_ca (pe_eS m 4 z) σ' := by
  obtain ⟨⟨⟨a1, a2, a3, a4, a5⟩, a6, a8, a9⟩, A⟩ := id hA
  exact pe_ca_2 hA (fun b hb => f b (by rintro rfl; simp at hb)) ⟨⟨rfl, rfl, rfl, rfl⟩, rfl, rfl, rfl, rfl, rfl, rfl, rfl⟩ ⟨(o 7 (by decide)).trans a2, (o 8 (by decide)).trans a3, (o 5 (by decide)).trans a4, e, (o 10 (by decide)).trans a8, (o 6 (by decide)).trans a9⟩
theorem pe_ca_pa {m σ σ' : pe_H} {z : Int} (hA : pe_ca m σ) (f : ∀ b, b ≠ 2 → σ' b = σ b) (o : ∀ j, j ≠ 10 → σ' 2 j = σ 2 j) (e : σ' 2 10 = z) : pe_ca (pe_eS m 6 z) σ' := by
  obtain ⟨⟨⟨a1, a2, a3, a4, a5⟩, a6, a8, a9⟩, A⟩ := id hA
  exact pe_ca_2 hA (fun b hb => f b (by rintro rfl; simp at hb)) ⟨⟨rfl, rfl, rfl, rfl⟩, rfl, rfl, rfl, rfl, rfl, rfl, rfl⟩ ⟨(o 7 (by decide)).trans a2, (o 8 (by decide)).trans a3, (o 5 (by decide)).trans a4, (o 9 (by decide)).trans a5, e, (o 6 (by decide)).trans a9⟩
theorem pe_ca_11 {m σ σ' : pe_H} (hA : pe_ca m σ) (f : ∀ b, b ≠ 2 → σ' b = σ b) (o : ∀ j, j ≠ 11 → σ' 2 j = σ 2 j) : pe_ca m σ' := by
  obtain ⟨⟨⟨a1, a2, a3, a4, a5⟩, a6, a8, a9⟩, A⟩ := id hA
  exact pe_ca_2 hA (fun b hb => f b (by rintro rfl; simp at hb)) ⟨⟨rfl, rfl, rfl, rfl⟩, rfl, rfl, rfl, rfl, rfl, rfl, rfl⟩ ⟨(o 7 (by decide)).trans a2, (o 8 (by decide)).trans a3, (o 5 (by decide)).trans a4, (o 9 (by decide)).trans a5, (o 10 (by decide)).trans a8, (o 6 (by decide)).trans a9⟩
theorem pe_ca_S1 {m σ : pe_H} {z : Int} (h : pe_ca (pe_eS m 1 z) σ) (e : z = m 1 0) : pe_ca m σ := by
  obtain ⟨⟨⟨a1, a2, a3, a4, a5⟩, a6, a8, a9⟩, A⟩ := h
  exact ⟨⟨⟨a1, a2.trans e, a3, a4, a5⟩, a6, a8, a9⟩, A⟩
theorem x_E_moveByRow {m σ : pe_H} {b : Int} (hB : pe_B σ) (hA : pe_ca m σ) (hw : pe_wf m) (hk : m 5 0 ≤ 11) (hg : pe_bg (m 8) (m 0 0) (m 1 0)) (hb : -1 ≤ b ∧ b ≤ 1) : pe_M m_E_moveByRow [pe_r 2, pe_i b] σ (pe_qv (fun σ' => pe_B σ' ∧ (∀ b, b ∉ [2, 12, 13, 14] → σ' b = σ b) ∧ pe_ca (pe_eMv m b) σ')) := by
  refine pe_in0 (lv := [some (pe_r 2), some (pe_i b), none]) ?_
  have hB0 := hB
  obtain ⟨⟨⟨a1, a2, a3, a4, a5⟩, ⟨a6, a7⟩, a8, a9⟩, A2, A3, A4⟩ := id hA
  obtain ⟨⟨w1, w2, w3, w4, w5, w6, w7, w8⟩, W2, W3⟩ := id hw
  have ag : ∀ j, 0 ≤ j → j < σ 3 1 → σ 4 j = m 8 j := fun j h0 h1 => A2 j h0 (by omega)
  have hv : ∀ j, 0 ≤ j → j < σ 3 1 → σ 4 j = 9 ∨ σ 4 j = 10 ∨ (32 ≤ σ 4 j ∧ σ 4 j ≤ 65535) := fun j h0 h1 => by rw [ag j h0 h1]; exact W2.1 j h0 (by omega)
  refine pe_aload_n d_E_moveByRow_0 rfl ?_
  refine pe_geti f_E_50 d_E_moveByRow_1 rfl rfl 6 rfl ?_
  refine pe_iconst d_E_moveByRow_4 ?_
  refine pe_icmp_ge (t := 9) d_E_moveByRow_5 (by first | exact hB _ _ | exact hB0 _ _ | exact hBt _ _ | exact ⟨by omega, by omega⟩) (by first | exact hB _ _ | exact hB0 _ _ | exact hBt _ _ | exact ⟨by omega, by omega⟩) (fun h5 => ?_) (fun h5 => ?_)
  · skip
    refine pe_aload_n d_E_moveByRow_9 rfl ?_
    refine pe_getr f_E_28 d_E_moveByRow_10 rfl rfl ?_
    refine pe_aload_n d_E_moveByRow_13 rfl ?_
    refine pe_getr f_E_12 d_E_moveByRow_14 rfl rfl ?_
    refine pe_aload_n d_E_moveByRow_17 rfl ?_
    refine pe_geti f_E_50 d_E_moveByRow_18 rfl rfl 6 rfl ?_
    refine pe_v2v d_E_moveByRow_21 c_E_145 i_L_lay s_L_lay rfl rfl (x_L_lay hB (by omega) hv ag (by omega)) (fun σ21 hz21 => ?_)
    obtain ⟨hB, f21, x21⟩ := hz21
    try have u21_0 : σ21 2 5 = σ 2 5 := by first | exact o21 5 (by decide) | exact congrFun (f21 2 (by decide)) 5
    try have u21_1 : σ21 2 6 = σ 2 6 := by first | exact o21 6 (by decide) | exact congrFun (f21 2 (by decide)) 6
    try have u21_2 : σ21 2 7 = σ 2 7 := by first | exact o21 7 (by decide) | exact congrFun (f21 2 (by decide)) 7
    try have u21_3 : σ21 2 8 = σ 2 8 := by first | exact o21 8 (by decide) | exact congrFun (f21 2 (by decide)) 8
    try have u21_4 : σ21 2 9 = σ 2 9 := by first | exact o21 9 (by decide) | exact congrFun (f21 2 (by decide)) 9
    try have u21_5 : σ21 2 10 = σ 2 10 := by first | exact o21 10 (by decide) | exact congrFun (f21 2 (by decide)) 10
    try have u21_6 : σ21 3 1 = σ 3 1 := by first | exact o21 1 (by decide) | exact congrFun (f21 3 (by decide)) 1
    rw [a1, a9] at x21
    have d7 : σ21 2 7 = m 1 0 := by omega
    have hx := (x21 (m 1 0) w2.1 (by omega)).1 hg
    have hrb := pe_rw_b (m 8) (m 0 0) (m 7 0) (m 1 0) (by omega) w2.1
    refine pe_aload_n d_E_moveByRow_24 rfl ?_
    refine pe_geti f_E_43 d_E_moveByRow_25 rfl rfl 9 rfl ?_
    refine pe_iconst d_E_moveByRow_28 ?_
    refine pe_icmp_ne (t := 48) d_E_moveByRow_29 (by first | exact hB _ _ | exact hB0 _ _ | exact hBt _ _ | exact ⟨by omega, by omega⟩) (by first | exact hB _ _ | exact hB0 _ _ | exact hBt _ _ | exact ⟨by omega, by omega⟩) (fun h29 => ?_) (fun h29 => ?_)
    · skip
      have c7 : σ21 2 7 = m 1 0 := by omega
      have hR1 : σ21 12 (σ21 2 7) = (pe_rw (m 8) (m 0 0) (m 7 0) (m 1 0)).1 := (congrFun (rfl) _).trans (by rw [c7]; exact hx.1)
      have hG : σ21 2 9 = pe_gl m := by
        unfold pe_gl
        first
        | (rw [if_pos (by omega)]; rw [e45, d7]; exact hx.2)
        | (rw [if_neg (by omega)]; omega)
      refine pe_aload_n d_E_moveByRow_48 rfl ?_
      refine pe_getr f_E_28 d_E_moveByRow_49 rfl rfl ?_
      refine pe_aload_n d_E_moveByRow_52 rfl ?_
      refine pe_getr f_E_12 d_E_moveByRow_53 rfl rfl ?_
      refine pe_aload_n d_E_moveByRow_56 rfl ?_
      refine pe_getr f_E_28 d_E_moveByRow_57 rfl rfl ?_
      refine pe_getr f_E_152 d_E_moveByRow_60 rfl rfl ?_
      refine pe_aload_n d_E_moveByRow_63 rfl ?_
      refine pe_geti f_E_78 d_E_moveByRow_64 rfl rfl 7 rfl ?_
      refine pe_iald d_E_moveByRow_67 rfl (by omega) (by omega) ?_
      refine pe_iload_n d_E_moveByRow_68 rfl ?_
      refine pe_iadd d_E_moveByRow_69 ?_
      refine pe_aload_n d_E_moveByRow_70 rfl ?_
      refine pe_geti f_E_43 d_E_moveByRow_71 rfl rfl 9 rfl ?_
      refine pe_v3p d_E_moveByRow_74 c_E_155 i_L_placeIn s_L_placeIn rfl rfl (x_L_placeIn (n := m 0 0) (c := m 7 0) (t := m 8) hB (by omega) (by rw [hR1]; exact ⟨by omega, by omega⟩) (by first | exact hB _ _ | exact hB0 _ _ | exact hBt _ _ | exact ⟨by omega, by omega⟩) (pe_LX_e x21 (rfl) (rfl))) (fun z74 hz74 => ?_)
      rw [hR1, hG] at hz74
      refine pe_istore_n d_E_moveByRow_77 ?_
      refine pe_iload_n d_E_moveByRow_78 rfl ?_
      refine pe_iconst d_E_moveByRow_79 ?_
      refine pe_icmp_eq (t := 88) d_E_moveByRow_80 (by first | exact hB _ _ | exact hB0 _ _ | exact hBt _ _ | exact ⟨by omega, by omega⟩) (by first | exact hB _ _ | exact hB0 _ _ | exact hBt _ _ | exact ⟨by omega, by omega⟩) (fun h80 => ?_) (fun h80 => ?_)
      · skip
        refine pe_rv d_E_moveByRow_88 ?_
        have hfrm : ∀ b, b ∉ [2, 12, 13, 14] → σ21 b = σ b := (fun b hb => (f21 b (by simp at hb ⊢; try omega)).trans (rfl))
        have hz : z74 = pe_mf m b := hz74.1
        exact ⟨hB, hfrm, by
          unfold pe_eMv; rw [if_neg (by omega)]
          refine pe_ca_2 hA (fun b hb => hfrm b (by simp at hb ⊢; omega)) ⟨⟨rfl, rfl, rfl, rfl⟩, rfl, rfl, rfl, rfl, rfl, rfl, rfl⟩ ⟨show σ21 2 7 = (if pe_mf m b = -1 then m 1 0 else pe_mf m b) from ?_, show σ21 2 8 = m 2 0 by omega, by omega, show σ21 2 9 = pe_gl m by omega, show σ21 2 10 = m 6 0 by omega, by omega⟩
          first
          | (rw [if_pos (by omega)]; omega)
          | (rw [if_neg (by omega)]; omega)⟩
      · skip
        refine pe_aload_n d_E_moveByRow_83 rfl ?_
        refine pe_iload_n d_E_moveByRow_84 rfl ?_
        refine pe_putiT f_E_78 g_2_7 d_E_moveByRow_85 rfl rfl 7 rfl hB (by first | exact hB _ _ | exact hB0 _ _ | exact hBt _ _ | exact ⟨by omega, by omega⟩) (fun σ85 hB e85 o85 f85 => ?_)
        try have u85_0 : σ85 2 5 = σ21 2 5 := by first | exact o85 5 (by decide) | exact congrFun (f85 2 (by decide)) 5
        try have u85_1 : σ85 2 6 = σ21 2 6 := by first | exact o85 6 (by decide) | exact congrFun (f85 2 (by decide)) 6
        try have u85_2 : σ85 2 7 = σ21 2 7 := by first | exact o85 7 (by decide) | exact congrFun (f85 2 (by decide)) 7
        try have u85_3 : σ85 2 8 = σ21 2 8 := by first | exact o85 8 (by decide) | exact congrFun (f85 2 (by decide)) 8
        try have u85_4 : σ85 2 9 = σ21 2 9 := by first | exact o85 9 (by decide) | exact congrFun (f85 2 (by decide)) 9
        try have u85_5 : σ85 2 10 = σ21 2 10 := by first | exact o85 10 (by decide) | exact congrFun (f85 2 (by decide)) 10
        try have u85_6 : σ85 3 1 = σ21 3 1 := by first | exact o85 1 (by decide) | exact congrFun (f85 3 (by decide)) 1
        refine pe_rv d_E_moveByRow_88 ?_
        have hfrm : ∀ b, b ∉ [2, 12, 13, 14] → σ85 b = σ b := (fun b hb => (f85 b (by simp at hb ⊢; try omega)).trans ((f21 b (by simp at hb ⊢; try omega)).trans (rfl)))
        have hz : z74 = pe_mf m b := hz74.1
        exact ⟨hB, hfrm, by
          unfold pe_eMv; rw [if_neg (by omega)]
          refine pe_ca_2 hA (fun b hb => hfrm b (by simp at hb ⊢; omega)) ⟨⟨rfl, rfl, rfl, rfl⟩, rfl, rfl, rfl, rfl, rfl, rfl, rfl⟩ ⟨show σ85 2 7 = (if pe_mf m b = -1 then m 1 0 else pe_mf m b) from ?_, show σ85 2 8 = m 2 0 by omega, by omega, show σ85 2 9 = pe_gl m by omega, show σ85 2 10 = m 6 0 by omega, by omega⟩
          first
          | (rw [if_pos (by omega)]; omega)
          | (rw [if_neg (by omega)]; omega)⟩
    · skip
      refine pe_aload_n d_E_moveByRow_32 rfl ?_
      refine pe_aload_n d_E_moveByRow_33 rfl ?_
      refine pe_getr f_E_28 d_E_moveByRow_34 rfl rfl ?_
      refine pe_getr f_E_149 d_E_moveByRow_37 rfl rfl ?_
      refine pe_aload_n d_E_moveByRow_40 rfl ?_
      refine pe_geti f_E_78 d_E_moveByRow_41 rfl rfl 7 rfl ?_
      refine pe_iald d_E_moveByRow_44 rfl (by omega) (by omega) ?_
      refine pe_putiT f_E_43 g_2_9 d_E_moveByRow_45 rfl rfl 9 rfl hB (by first | exact hB _ _ | exact hB0 _ _ | exact hBt _ _ | exact ⟨by omega, by omega⟩) (fun σ45 hB e45 o45 f45 => ?_)
      try have u45_0 : σ45 2 5 = σ21 2 5 := by first | exact o45 5 (by decide) | exact congrFun (f45 2 (by decide)) 5
      try have u45_1 : σ45 2 6 = σ21 2 6 := by first | exact o45 6 (by decide) | exact congrFun (f45 2 (by decide)) 6
      try have u45_2 : σ45 2 7 = σ21 2 7 := by first | exact o45 7 (by decide) | exact congrFun (f45 2 (by decide)) 7
      try have u45_3 : σ45 2 8 = σ21 2 8 := by first | exact o45 8 (by decide) | exact congrFun (f45 2 (by decide)) 8
      try have u45_4 : σ45 2 9 = σ21 2 9 := by first | exact o45 9 (by decide) | exact congrFun (f45 2 (by decide)) 9
      try have u45_5 : σ45 2 10 = σ21 2 10 := by first | exact o45 10 (by decide) | exact congrFun (f45 2 (by decide)) 10
      try have u45_6 : σ45 3 1 = σ21 3 1 := by first | exact o45 1 (by decide) | exact congrFun (f45 3 (by decide)) 1
      have c7 : σ45 2 7 = m 1 0 := by omega
      have hR1 : σ45 12 (σ45 2 7) = (pe_rw (m 8) (m 0 0) (m 7 0) (m 1 0)).1 := (congrFun ((f45 12 (by decide)).trans (rfl)) _).trans (by rw [c7]; exact hx.1)
      have hG : σ45 2 9 = pe_gl m := by
        unfold pe_gl
        first
        | (rw [if_pos (by omega)]; rw [e45, d7]; exact hx.2)
        | (rw [if_neg (by omega)]; omega)
      refine pe_aload_n d_E_moveByRow_48 rfl ?_
      refine pe_getr f_E_28 d_E_moveByRow_49 rfl rfl ?_
      refine pe_aload_n d_E_moveByRow_52 rfl ?_
      refine pe_getr f_E_12 d_E_moveByRow_53 rfl rfl ?_
      refine pe_aload_n d_E_moveByRow_56 rfl ?_
      refine pe_getr f_E_28 d_E_moveByRow_57 rfl rfl ?_
      refine pe_getr f_E_152 d_E_moveByRow_60 rfl rfl ?_
      refine pe_aload_n d_E_moveByRow_63 rfl ?_
      refine pe_geti f_E_78 d_E_moveByRow_64 rfl rfl 7 rfl ?_
      refine pe_iald d_E_moveByRow_67 rfl (by omega) (by omega) ?_
      refine pe_iload_n d_E_moveByRow_68 rfl ?_
      refine pe_iadd d_E_moveByRow_69 ?_
      refine pe_aload_n d_E_moveByRow_70 rfl ?_
      refine pe_geti f_E_43 d_E_moveByRow_71 rfl rfl 9 rfl ?_
      refine pe_v3p d_E_moveByRow_74 c_E_155 i_L_placeIn s_L_placeIn rfl rfl (x_L_placeIn (n := m 0 0) (c := m 7 0) (t := m 8) hB (by omega) (by rw [hR1]; exact ⟨by omega, by omega⟩) (by first | exact hB _ _ | exact hB0 _ _ | exact hBt _ _ | exact ⟨by omega, by omega⟩) (pe_LX_e x21 ((f45 12 (by decide)).trans (rfl)) ((f45 13 (by decide)).trans (rfl)))) (fun z74 hz74 => ?_)
      rw [hR1, hG] at hz74
      refine pe_istore_n d_E_moveByRow_77 ?_
      refine pe_iload_n d_E_moveByRow_78 rfl ?_
      refine pe_iconst d_E_moveByRow_79 ?_
      refine pe_icmp_eq (t := 88) d_E_moveByRow_80 (by first | exact hB _ _ | exact hB0 _ _ | exact hBt _ _ | exact ⟨by omega, by omega⟩) (by first | exact hB _ _ | exact hB0 _ _ | exact hBt _ _ | exact ⟨by omega, by omega⟩) (fun h80 => ?_) (fun h80 => ?_)
      · skip
        refine pe_rv d_E_moveByRow_88 ?_
        have hfrm : ∀ b, b ∉ [2, 12, 13, 14] → σ45 b = σ b := (fun b hb => (f45 b (by simp at hb ⊢; try omega)).trans ((f21 b (by simp at hb ⊢; try omega)).trans (rfl)))
        have hz : z74 = pe_mf m b := hz74.1
        exact ⟨hB, hfrm, by
          unfold pe_eMv; rw [if_neg (by omega)]
          refine pe_ca_2 hA (fun b hb => hfrm b (by simp at hb ⊢; omega)) ⟨⟨rfl, rfl, rfl, rfl⟩, rfl, rfl, rfl, rfl, rfl, rfl, rfl⟩ ⟨show σ45 2 7 = (if pe_mf m b = -1 then m 1 0 else pe_mf m b) from ?_, show σ45 2 8 = m 2 0 by omega, by omega, show σ45 2 9 = pe_gl m by omega, show σ45 2 10 = m 6 0 by omega, by omega⟩
          first
          | (rw [if_pos (by omega)]; omega)
          | (rw [if_neg (by omega)]; omega)⟩
      · skip
        refine pe_aload_n d_E_moveByRow_83 rfl ?_
        refine pe_iload_n d_E_moveByRow_84 rfl ?_
        refine pe_putiT f_E_78 g_2_7 d_E_moveByRow_85 rfl rfl 7 rfl hB (by first | exact hB _ _ | exact hB0 _ _ | exact hBt _ _ | exact ⟨by omega, by omega⟩) (fun σ85 hB e85 o85 f85 => ?_)
        try have u85_0 : σ85 2 5 = σ45 2 5 := by first | exact o85 5 (by decide) | exact congrFun (f85 2 (by decide)) 5
        try have u85_1 : σ85 2 6 = σ45 2 6 := by first | exact o85 6 (by decide) | exact congrFun (f85 2 (by decide)) 6
        try have u85_2 : σ85 2 7 = σ45 2 7 := by first | exact o85 7 (by decide) | exact congrFun (f85 2 (by decide)) 7
        try have u85_3 : σ85 2 8 = σ45 2 8 := by first | exact o85 8 (by decide) | exact congrFun (f85 2 (by decide)) 8
        try have u85_4 : σ85 2 9 = σ45 2 9 := by first | exact o85 9 (by decide) | exact congrFun (f85 2 (by decide)) 9
        try have u85_5 : σ85 2 10 = σ45 2 10 := by first | exact o85 10 (by decide) | exact congrFun (f85 2 (by decide)) 10
        try have u85_6 : σ85 3 1 = σ45 3 1 := by first | exact o85 1 (by decide) | exact congrFun (f85 3 (by decide)) 1
        refine pe_rv d_E_moveByRow_88 ?_
        have hfrm : ∀ b, b ∉ [2, 12, 13, 14] → σ85 b = σ b := (fun b hb => (f85 b (by simp at hb ⊢; try omega)).trans ((f45 b (by simp at hb ⊢; try omega)).trans ((f21 b (by simp at hb ⊢; try omega)).trans (rfl))))
        have hz : z74 = pe_mf m b := hz74.1
        exact ⟨hB, hfrm, by
          unfold pe_eMv; rw [if_neg (by omega)]
          refine pe_ca_2 hA (fun b hb => hfrm b (by simp at hb ⊢; omega)) ⟨⟨rfl, rfl, rfl, rfl⟩, rfl, rfl, rfl, rfl, rfl, rfl, rfl⟩ ⟨show σ85 2 7 = (if pe_mf m b = -1 then m 1 0 else pe_mf m b) from ?_, show σ85 2 8 = m 2 0 by omega, by omega, show σ85 2 9 = pe_gl m by omega, show σ85 2 10 = m 6 0 by omega, by omega⟩
          first
          | (rw [if_pos (by omega)]; omega)
          | (rw [if_neg (by omega)]; omega)⟩
  · skip
    refine pe_rv d_E_moveByRow_8 ?_
    exact ⟨hB, (fun b hb => rfl), by unfold pe_eMv; rw [if_pos (by omega)]; exact hA⟩
theorem x_E_isCharacter {σ : pe_H} {k : Int} (hk : pe_R k) : pe_M m_E_isCharacter [pe_i k] σ (pe_qp σ (fun z => (z = 0 ∨ z = 1) ∧ (z = 1 ↔ 32 ≤ k ∧ k < 65536 ∧ k ≠ 127))) := by
  refine pe_in0 (lv := [some (pe_i k)]) ?_
  refine pe_iload_n d_E_isCharacter_0 rfl ?_
  refine pe_bipush d_E_isCharacter_1 ?_
  refine pe_icmp_lt (t := 22) d_E_isCharacter_3 (by first | exact hB _ _ | exact hB0 _ _ | exact hBt _ _ | exact ⟨by omega, by omega⟩) (by first | exact hB _ _ | exact hB0 _ _ | exact hBt _ _ | exact ⟨by omega, by omega⟩) (fun h3 => ?_) (fun h3 => ?_)
  · skip
    refine pe_iconst d_E_isCharacter_22 ?_
    refine pe_rz d_E_isCharacter_23 (by first | exact Or.inl rfl | exact Or.inr rfl | omega) ?_
    exact ⟨rfl, by omega⟩
  · skip
    refine pe_iload_n d_E_isCharacter_6 rfl ?_
    refine pe_ldc q_E_53 d_E_isCharacter_7 (z := 65536) rfl ?_
    refine pe_icmp_ge (t := 22) d_E_isCharacter_9 (by first | exact hB _ _ | exact hB0 _ _ | exact hBt _ _ | exact ⟨by omega, by omega⟩) (by first | exact hB _ _ | exact hB0 _ _ | exact hBt _ _ | exact ⟨by omega, by omega⟩) (fun h9 => ?_) (fun h9 => ?_)
    · skip
      refine pe_iconst d_E_isCharacter_22 ?_
      refine pe_rz d_E_isCharacter_23 (by first | exact Or.inl rfl | exact Or.inr rfl | omega) ?_
      exact ⟨rfl, by omega⟩
    · skip
      refine pe_iload_n d_E_isCharacter_12 rfl ?_
      refine pe_bipush d_E_isCharacter_13 ?_
      refine pe_icmp_eq (t := 22) d_E_isCharacter_15 (by first | exact hB _ _ | exact hB0 _ _ | exact hBt _ _ | exact ⟨by omega, by omega⟩) (by first | exact hB _ _ | exact hB0 _ _ | exact hBt _ _ | exact ⟨by omega, by omega⟩) (fun h15 => ?_) (fun h15 => ?_)
      · skip
        refine pe_iconst d_E_isCharacter_22 ?_
        refine pe_rz d_E_isCharacter_23 (by first | exact Or.inl rfl | exact Or.inr rfl | omega) ?_
        exact ⟨rfl, by omega⟩
      · skip
        refine pe_iconst d_E_isCharacter_18 ?_
        refine pe_goto (t := 23) d_E_isCharacter_19 ?_
        refine pe_rz d_E_isCharacter_23 (by first | exact Or.inl rfl | exact Or.inr rfl | omega) ?_
        exact ⟨rfl, by omega⟩
theorem x_E_worksWhilePasting {σ : pe_H} {k : Int} (hk : pe_R k) : pe_M m_E_worksWhilePasting [pe_i k] σ (pe_qp σ (fun z => (z = 0 ∨ z = 1) ∧ (z = 1 ↔ (32 ≤ k ∧ k < 65536 ∧ k ≠ 127) ∨ k = 9 ∨ k = 13 ∨ k = 10 ∨ k = 65544))) := by
  refine pe_in0 (lv := [some (pe_i k)]) ?_
  refine pe_iload_n d_E_worksWhilePasting_0 rfl ?_
  refine pe_s1p d_E_worksWhilePasting_1 c_E_69 z_E_isCharacter (x_E_isCharacter (by first | exact hB _ _ | exact hB0 _ _ | exact hBt _ _ | exact ⟨by omega, by omega⟩)) (fun z1 hz1 => ?_)
  refine pe_if_ne (t := 31) d_E_worksWhilePasting_4 (by first | exact hB _ _ | exact hB0 _ _ | exact hBt _ _ | exact ⟨by omega, by omega⟩) (fun h4 => ?_) (fun h4 => ?_)
  · skip
    refine pe_iconst d_E_worksWhilePasting_31 ?_
    refine pe_goto (t := 36) d_E_worksWhilePasting_32 ?_
    refine pe_rz d_E_worksWhilePasting_36 (by first | exact Or.inl rfl | exact Or.inr rfl | omega) ?_
    exact ⟨rfl, by omega⟩
  · skip
    refine pe_iload_n d_E_worksWhilePasting_7 rfl ?_
    refine pe_bipush d_E_worksWhilePasting_8 ?_
    refine pe_icmp_eq (t := 31) d_E_worksWhilePasting_10 (by first | exact hB _ _ | exact hB0 _ _ | exact hBt _ _ | exact ⟨by omega, by omega⟩) (by first | exact hB _ _ | exact hB0 _ _ | exact hBt _ _ | exact ⟨by omega, by omega⟩) (fun h10 => ?_) (fun h10 => ?_)
    · skip
      refine pe_iconst d_E_worksWhilePasting_31 ?_
      refine pe_goto (t := 36) d_E_worksWhilePasting_32 ?_
      refine pe_rz d_E_worksWhilePasting_36 (by first | exact Or.inl rfl | exact Or.inr rfl | omega) ?_
      exact ⟨rfl, by omega⟩
    · skip
      refine pe_iload_n d_E_worksWhilePasting_13 rfl ?_
      refine pe_bipush d_E_worksWhilePasting_14 ?_
      refine pe_icmp_eq (t := 31) d_E_worksWhilePasting_16 (by first | exact hB _ _ | exact hB0 _ _ | exact hBt _ _ | exact ⟨by omega, by omega⟩) (by first | exact hB _ _ | exact hB0 _ _ | exact hBt _ _ | exact ⟨by omega, by omega⟩) (fun h16 => ?_) (fun h16 => ?_)
      · skip
        refine pe_iconst d_E_worksWhilePasting_31 ?_
        refine pe_goto (t := 36) d_E_worksWhilePasting_32 ?_
        refine pe_rz d_E_worksWhilePasting_36 (by first | exact Or.inl rfl | exact Or.inr rfl | omega) ?_
        exact ⟨rfl, by omega⟩
      · skip
        refine pe_iload_n d_E_worksWhilePasting_19 rfl ?_
        refine pe_bipush d_E_worksWhilePasting_20 ?_
        refine pe_icmp_eq (t := 31) d_E_worksWhilePasting_22 (by first | exact hB _ _ | exact hB0 _ _ | exact hBt _ _ | exact ⟨by omega, by omega⟩) (by first | exact hB _ _ | exact hB0 _ _ | exact hBt _ _ | exact ⟨by omega, by omega⟩) (fun h22 => ?_) (fun h22 => ?_)
        · skip
          refine pe_iconst d_E_worksWhilePasting_31 ?_
          refine pe_goto (t := 36) d_E_worksWhilePasting_32 ?_
          refine pe_rz d_E_worksWhilePasting_36 (by first | exact Or.inl rfl | exact Or.inr rfl | omega) ?_
          exact ⟨rfl, by omega⟩
        · skip
          refine pe_iload_n d_E_worksWhilePasting_25 rfl ?_
          refine pe_ldc q_E_85 d_E_worksWhilePasting_26 (z := 65544) rfl ?_
          refine pe_icmp_ne (t := 35) d_E_worksWhilePasting_28 (by first | exact hB _ _ | exact hB0 _ _ | exact hBt _ _ | exact ⟨by omega, by omega⟩) (by first | exact hB _ _ | exact hB0 _ _ | exact hBt _ _ | exact ⟨by omega, by omega⟩) (fun h28 => ?_) (fun h28 => ?_)
          · skip
            refine pe_iconst d_E_worksWhilePasting_35 ?_
            refine pe_rz d_E_worksWhilePasting_36 (by first | exact Or.inl rfl | exact Or.inr rfl | omega) ?_
            exact ⟨rfl, by omega⟩
          · skip
            refine pe_iconst d_E_worksWhilePasting_31 ?_
            refine pe_goto (t := 36) d_E_worksWhilePasting_32 ?_
            refine pe_rz d_E_worksWhilePasting_36 (by first | exact Or.inl rfl | exact Or.inr rfl | omega) ?_
            exact ⟨rfl, by omega⟩
theorem x_E_worksOtherwise {σ : pe_H} {k : Int} (hk : pe_R k) : pe_M m_E_worksOtherwise [pe_i k] σ (pe_qp σ (fun z => (z = 0 ∨ z = 1) ∧ (z = 1 ↔ k = 0 ∨ k = 8 ∨ k = 9 ∨ k = 10 ∨ k = 12 ∨ k = 13 ∨ k = 23 ∨ k = 25 ∨ k = 26 ∨ k = 27 ∨ 32 ≤ k))) := by
  refine pe_in0 (lv := [some (pe_i k)]) ?_
  refine pe_iload_n d_E_worksOtherwise_0 rfl ?_
  refine pe_tsw [(0, 128), (1, 130), (2, 130), (3, 130), (4, 130), (5, 130), (6, 130), (7, 130), (8, 128), (9, 128), (10, 128), (11, 130), (12, 128), (13, 128), (14, 130), (15, 130), (16, 130), (17, 130), (18, 130), (19, 130), (20, 130), (21, 130), (22, 130), (23, 128), (24, 130), (25, 128), (26, 128), (27, 128)] (dt := 130) d_E_worksOtherwise_1 (by first | exact hB _ _ | exact hB0 _ _ | exact hBt _ _ | exact ⟨by omega, by omega⟩) ?_
  refine ⟨fun h1 => ?_, fun h1_0 => ?_⟩
  · show pe_G _ _ _ _ _ _
    refine pe_iconst d_E_worksOtherwise_128 ?_
    refine pe_rz d_E_worksOtherwise_129 (by first | exact Or.inl rfl | exact Or.inr rfl | omega) ?_
    exact ⟨rfl, by omega⟩
  refine ⟨fun h1 => ?_, fun h1_1 => ?_⟩
  · show pe_G _ _ _ _ _ _
    refine pe_iload_n d_E_worksOtherwise_130 rfl ?_
    refine pe_bipush d_E_worksOtherwise_131 ?_
    refine pe_icmp_lt (t := 140) d_E_worksOtherwise_133 (by first | exact hB _ _ | exact hB0 _ _ | exact hBt _ _ | exact ⟨by omega, by omega⟩) (by first | exact hB _ _ | exact hB0 _ _ | exact hBt _ _ | exact ⟨by omega, by omega⟩) (fun h133 => ?_) (fun h133 => ?_)
    · skip
      refine pe_iconst d_E_worksOtherwise_140 ?_
      refine pe_rz d_E_worksOtherwise_141 (by first | exact Or.inl rfl | exact Or.inr rfl | omega) ?_
      exact ⟨rfl, by omega⟩
    · skip
      refine pe_iconst d_E_worksOtherwise_136 ?_
      refine pe_goto (t := 141) d_E_worksOtherwise_137 ?_
      refine pe_rz d_E_worksOtherwise_141 (by first | exact Or.inl rfl | exact Or.inr rfl | omega) ?_
      exact ⟨rfl, by omega⟩
  refine ⟨fun h1 => ?_, fun h1_2 => ?_⟩
  · show pe_G _ _ _ _ _ _
    refine pe_iload_n d_E_worksOtherwise_130 rfl ?_
    refine pe_bipush d_E_worksOtherwise_131 ?_
    refine pe_icmp_lt (t := 140) d_E_worksOtherwise_133 (by first | exact hB _ _ | exact hB0 _ _ | exact hBt _ _ | exact ⟨by omega, by omega⟩) (by first | exact hB _ _ | exact hB0 _ _ | exact hBt _ _ | exact ⟨by omega, by omega⟩) (fun h133 => ?_) (fun h133 => ?_)
    · skip
      refine pe_iconst d_E_worksOtherwise_140 ?_
      refine pe_rz d_E_worksOtherwise_141 (by first | exact Or.inl rfl | exact Or.inr rfl | omega) ?_
      exact ⟨rfl, by omega⟩
    · skip
      refine pe_iconst d_E_worksOtherwise_136 ?_
      refine pe_goto (t := 141) d_E_worksOtherwise_137 ?_
      refine pe_rz d_E_worksOtherwise_141 (by first | exact Or.inl rfl | exact Or.inr rfl | omega) ?_
      exact ⟨rfl, by omega⟩
  refine ⟨fun h1 => ?_, fun h1_3 => ?_⟩
  · show pe_G _ _ _ _ _ _
    refine pe_iload_n d_E_worksOtherwise_130 rfl ?_
    refine pe_bipush d_E_worksOtherwise_131 ?_
    refine pe_icmp_lt (t := 140) d_E_worksOtherwise_133 (by first | exact hB _ _ | exact hB0 _ _ | exact hBt _ _ | exact ⟨by omega, by omega⟩) (by first | exact hB _ _ | exact hB0 _ _ | exact hBt _ _ | exact ⟨by omega, by omega⟩) (fun h133 => ?_) (fun h133 => ?_)
    · skip
      refine pe_iconst d_E_worksOtherwise_140 ?_
      refine pe_rz d_E_worksOtherwise_141 (by first | exact Or.inl rfl | exact Or.inr rfl | omega) ?_
      exact ⟨rfl, by omega⟩
    · skip
      refine pe_iconst d_E_worksOtherwise_136 ?_
      refine pe_goto (t := 141) d_E_worksOtherwise_137 ?_
      refine pe_rz d_E_worksOtherwise_141 (by first | exact Or.inl rfl | exact Or.inr rfl | omega) ?_
      exact ⟨rfl, by omega⟩
  refine ⟨fun h1 => ?_, fun h1_4 => ?_⟩
  · show pe_G _ _ _ _ _ _
    refine pe_iload_n d_E_worksOtherwise_130 rfl ?_
    refine pe_bipush d_E_worksOtherwise_131 ?_
    refine pe_icmp_lt (t := 140) d_E_worksOtherwise_133 (by first | exact hB _ _ | exact hB0 _ _ | exact hBt _ _ | exact ⟨by omega, by omega⟩) (by first | exact hB _ _ | exact hB0 _ _ | exact hBt _ _ | exact ⟨by omega, by omega⟩) (fun h133 => ?_) (fun h133 => ?_)
    · skip
      refine pe_iconst d_E_worksOtherwise_140 ?_
      refine pe_rz d_E_worksOtherwise_141 (by first | exact Or.inl rfl | exact Or.inr rfl | omega) ?_
      exact ⟨rfl, by omega⟩
    · skip
      refine pe_iconst d_E_worksOtherwise_136 ?_
      refine pe_goto (t := 141) d_E_worksOtherwise_137 ?_
      refine pe_rz d_E_worksOtherwise_141 (by first | exact Or.inl rfl | exact Or.inr rfl | omega) ?_
      exact ⟨rfl, by omega⟩
  refine ⟨fun h1 => ?_, fun h1_5 => ?_⟩
  · show pe_G _ _ _ _ _ _
    refine pe_iload_n d_E_worksOtherwise_130 rfl ?_
    refine pe_bipush d_E_worksOtherwise_131 ?_
    refine pe_icmp_lt (t := 140) d_E_worksOtherwise_133 (by first | exact hB _ _ | exact hB0 _ _ | exact hBt _ _ | exact ⟨by omega, by omega⟩) (by first | exact hB _ _ | exact hB0 _ _ | exact hBt _ _ | exact ⟨by omega, by omega⟩) (fun h133 => ?_) (fun h133 => ?_)
    · skip
      refine pe_iconst d_E_worksOtherwise_140 ?_
      refine pe_rz d_E_worksOtherwise_141 (by first | exact Or.inl rfl | exact Or.inr rfl | omega) ?_
      exact ⟨rfl, by omega⟩
    · skip
      refine pe_iconst d_E_worksOtherwise_136 ?_
      refine pe_goto (t := 141) d_E_worksOtherwise_137 ?_
      refine pe_rz d_E_worksOtherwise_141 (by first | exact Or.inl rfl | exact Or.inr rfl | omega) ?_
      exact ⟨rfl, by omega⟩
  refine ⟨fun h1 => ?_, fun h1_6 => ?_⟩
  · show pe_G _ _ _ _ _ _
    refine pe_iload_n d_E_worksOtherwise_130 rfl ?_
    refine pe_bipush d_E_worksOtherwise_131 ?_
    refine pe_icmp_lt (t := 140) d_E_worksOtherwise_133 (by first | exact hB _ _ | exact hB0 _ _ | exact hBt _ _ | exact ⟨by omega, by omega⟩) (by first | exact hB _ _ | exact hB0 _ _ | exact hBt _ _ | exact ⟨by omega, by omega⟩) (fun h133 => ?_) (fun h133 => ?_)
    · skip
      refine pe_iconst d_E_worksOtherwise_140 ?_
      refine pe_rz d_E_worksOtherwise_141 (by first | exact Or.inl rfl | exact Or.inr rfl | omega) ?_
      exact ⟨rfl, by omega⟩
    · skip
      refine pe_iconst d_E_worksOtherwise_136 ?_
      refine pe_goto (t := 141) d_E_worksOtherwise_137 ?_
      refine pe_rz d_E_worksOtherwise_141 (by first | exact Or.inl rfl | exact Or.inr rfl | omega) ?_
      exact ⟨rfl, by omega⟩
  refine ⟨fun h1 => ?_, fun h1_7 => ?_⟩
  · show pe_G _ _ _ _ _ _
    refine pe_iload_n d_E_worksOtherwise_130 rfl ?_
    refine pe_bipush d_E_worksOtherwise_131 ?_
    refine pe_icmp_lt (t := 140) d_E_worksOtherwise_133 (by first | exact hB _ _ | exact hB0 _ _ | exact hBt _ _ | exact ⟨by omega, by omega⟩) (by first | exact hB _ _ | exact hB0 _ _ | exact hBt _ _ | exact ⟨by omega, by omega⟩) (fun h133 => ?_) (fun h133 => ?_)
    · skip
      refine pe_iconst d_E_worksOtherwise_140 ?_
      refine pe_rz d_E_worksOtherwise_141 (by first | exact Or.inl rfl | exact Or.inr rfl | omega) ?_
      exact ⟨rfl, by omega⟩
    · skip
      refine pe_iconst d_E_worksOtherwise_136 ?_
      refine pe_goto (t := 141) d_E_worksOtherwise_137 ?_
      refine pe_rz d_E_worksOtherwise_141 (by first | exact Or.inl rfl | exact Or.inr rfl | omega) ?_
      exact ⟨rfl, by omega⟩
  refine ⟨fun h1 => ?_, fun h1_8 => ?_⟩
  · show pe_G _ _ _ _ _ _
    refine pe_iconst d_E_worksOtherwise_128 ?_
    refine pe_rz d_E_worksOtherwise_129 (by first | exact Or.inl rfl | exact Or.inr rfl | omega) ?_
    exact ⟨rfl, by omega⟩
  refine ⟨fun h1 => ?_, fun h1_9 => ?_⟩
  · show pe_G _ _ _ _ _ _
    refine pe_iconst d_E_worksOtherwise_128 ?_
    refine pe_rz d_E_worksOtherwise_129 (by first | exact Or.inl rfl | exact Or.inr rfl | omega) ?_
    exact ⟨rfl, by omega⟩
  refine ⟨fun h1 => ?_, fun h1_10 => ?_⟩
  · show pe_G _ _ _ _ _ _
    refine pe_iconst d_E_worksOtherwise_128 ?_
    refine pe_rz d_E_worksOtherwise_129 (by first | exact Or.inl rfl | exact Or.inr rfl | omega) ?_
    exact ⟨rfl, by omega⟩
  refine ⟨fun h1 => ?_, fun h1_11 => ?_⟩
  · show pe_G _ _ _ _ _ _
    refine pe_iload_n d_E_worksOtherwise_130 rfl ?_
    refine pe_bipush d_E_worksOtherwise_131 ?_
    refine pe_icmp_lt (t := 140) d_E_worksOtherwise_133 (by first | exact hB _ _ | exact hB0 _ _ | exact hBt _ _ | exact ⟨by omega, by omega⟩) (by first | exact hB _ _ | exact hB0 _ _ | exact hBt _ _ | exact ⟨by omega, by omega⟩) (fun h133 => ?_) (fun h133 => ?_)
    · skip
      refine pe_iconst d_E_worksOtherwise_140 ?_
      refine pe_rz d_E_worksOtherwise_141 (by first | exact Or.inl rfl | exact Or.inr rfl | omega) ?_
      exact ⟨rfl, by omega⟩
    · skip
      refine pe_iconst d_E_worksOtherwise_136 ?_
      refine pe_goto (t := 141) d_E_worksOtherwise_137 ?_
      refine pe_rz d_E_worksOtherwise_141 (by first | exact Or.inl rfl | exact Or.inr rfl | omega) ?_
      exact ⟨rfl, by omega⟩
  refine ⟨fun h1 => ?_, fun h1_12 => ?_⟩
  · show pe_G _ _ _ _ _ _
    refine pe_iconst d_E_worksOtherwise_128 ?_
    refine pe_rz d_E_worksOtherwise_129 (by first | exact Or.inl rfl | exact Or.inr rfl | omega) ?_
    exact ⟨rfl, by omega⟩
  refine ⟨fun h1 => ?_, fun h1_13 => ?_⟩
  · show pe_G _ _ _ _ _ _
    refine pe_iconst d_E_worksOtherwise_128 ?_
    refine pe_rz d_E_worksOtherwise_129 (by first | exact Or.inl rfl | exact Or.inr rfl | omega) ?_
    exact ⟨rfl, by omega⟩
  refine ⟨fun h1 => ?_, fun h1_14 => ?_⟩
  · show pe_G _ _ _ _ _ _
    refine pe_iload_n d_E_worksOtherwise_130 rfl ?_
    refine pe_bipush d_E_worksOtherwise_131 ?_
    refine pe_icmp_lt (t := 140) d_E_worksOtherwise_133 (by first | exact hB _ _ | exact hB0 _ _ | exact hBt _ _ | exact ⟨by omega, by omega⟩) (by first | exact hB _ _ | exact hB0 _ _ | exact hBt _ _ | exact ⟨by omega, by omega⟩) (fun h133 => ?_) (fun h133 => ?_)
    · skip
      refine pe_iconst d_E_worksOtherwise_140 ?_
      refine pe_rz d_E_worksOtherwise_141 (by first | exact Or.inl rfl | exact Or.inr rfl | omega) ?_
      exact ⟨rfl, by omega⟩
    · skip
      refine pe_iconst d_E_worksOtherwise_136 ?_
      refine pe_goto (t := 141) d_E_worksOtherwise_137 ?_
      refine pe_rz d_E_worksOtherwise_141 (by first | exact Or.inl rfl | exact Or.inr rfl | omega) ?_
      exact ⟨rfl, by omega⟩
  refine ⟨fun h1 => ?_, fun h1_15 => ?_⟩
  · show pe_G _ _ _ _ _ _
    refine pe_iload_n d_E_worksOtherwise_130 rfl ?_
    refine pe_bipush d_E_worksOtherwise_131 ?_
    refine pe_icmp_lt (t := 140) d_E_worksOtherwise_133 (by first | exact hB _ _ | exact hB0 _ _ | exact hBt _ _ | exact ⟨by omega, by omega⟩) (by first | exact hB _ _ | exact hB0 _ _ | exact hBt _ _ | exact ⟨by omega, by omega⟩) (fun h133 => ?_) (fun h133 => ?_)
    · skip
      refine pe_iconst d_E_worksOtherwise_140 ?_
      refine pe_rz d_E_worksOtherwise_141 (by first | exact Or.inl rfl | exact Or.inr rfl | omega) ?_
      exact ⟨rfl, by omega⟩
    · skip
      refine pe_iconst d_E_worksOtherwise_136 ?_
      refine pe_goto (t := 141) d_E_worksOtherwise_137 ?_
      refine pe_rz d_E_worksOtherwise_141 (by first | exact Or.inl rfl | exact Or.inr rfl | omega) ?_
      exact ⟨rfl, by omega⟩
  refine ⟨fun h1 => ?_, fun h1_16 => ?_⟩
  · show pe_G _ _ _ _ _ _
    refine pe_iload_n d_E_worksOtherwise_130 rfl ?_
    refine pe_bipush d_E_worksOtherwise_131 ?_
    refine pe_icmp_lt (t := 140) d_E_worksOtherwise_133 (by first | exact hB _ _ | exact hB0 _ _ | exact hBt _ _ | exact ⟨by omega, by omega⟩) (by first | exact hB _ _ | exact hB0 _ _ | exact hBt _ _ | exact ⟨by omega, by omega⟩) (fun h133 => ?_) (fun h133 => ?_)
    · skip
      refine pe_iconst d_E_worksOtherwise_140 ?_
      refine pe_rz d_E_worksOtherwise_141 (by first | exact Or.inl rfl | exact Or.inr rfl | omega) ?_
      exact ⟨rfl, by omega⟩
    · skip
      refine pe_iconst d_E_worksOtherwise_136 ?_
      refine pe_goto (t := 141) d_E_worksOtherwise_137 ?_
      refine pe_rz d_E_worksOtherwise_141 (by first | exact Or.inl rfl | exact Or.inr rfl | omega) ?_
      exact ⟨rfl, by omega⟩
  refine ⟨fun h1 => ?_, fun h1_17 => ?_⟩
  · show pe_G _ _ _ _ _ _
    refine pe_iload_n d_E_worksOtherwise_130 rfl ?_
    refine pe_bipush d_E_worksOtherwise_131 ?_
    refine pe_icmp_lt (t := 140) d_E_worksOtherwise_133 (by first | exact hB _ _ | exact hB0 _ _ | exact hBt _ _ | exact ⟨by omega, by omega⟩) (by first | exact hB _ _ | exact hB0 _ _ | exact hBt _ _ | exact ⟨by omega, by omega⟩) (fun h133 => ?_) (fun h133 => ?_)
    · skip
      refine pe_iconst d_E_worksOtherwise_140 ?_
      refine pe_rz d_E_worksOtherwise_141 (by first | exact Or.inl rfl | exact Or.inr rfl | omega) ?_
      exact ⟨rfl, by omega⟩
    · skip
      refine pe_iconst d_E_worksOtherwise_136 ?_
      refine pe_goto (t := 141) d_E_worksOtherwise_137 ?_
      refine pe_rz d_E_worksOtherwise_141 (by first | exact Or.inl rfl | exact Or.inr rfl | omega) ?_
      exact ⟨rfl, by omega⟩
  refine ⟨fun h1 => ?_, fun h1_18 => ?_⟩
  · show pe_G _ _ _ _ _ _
    refine pe_iload_n d_E_worksOtherwise_130 rfl ?_
    refine pe_bipush d_E_worksOtherwise_131 ?_
    refine pe_icmp_lt (t := 140) d_E_worksOtherwise_133 (by first | exact hB _ _ | exact hB0 _ _ | exact hBt _ _ | exact ⟨by omega, by omega⟩) (by first | exact hB _ _ | exact hB0 _ _ | exact hBt _ _ | exact ⟨by omega, by omega⟩) (fun h133 => ?_) (fun h133 => ?_)
    · skip
      refine pe_iconst d_E_worksOtherwise_140 ?_
      refine pe_rz d_E_worksOtherwise_141 (by first | exact Or.inl rfl | exact Or.inr rfl | omega) ?_
      exact ⟨rfl, by omega⟩
    · skip
      refine pe_iconst d_E_worksOtherwise_136 ?_
      refine pe_goto (t := 141) d_E_worksOtherwise_137 ?_
      refine pe_rz d_E_worksOtherwise_141 (by first | exact Or.inl rfl | exact Or.inr rfl | omega) ?_
      exact ⟨rfl, by omega⟩
  refine ⟨fun h1 => ?_, fun h1_19 => ?_⟩
  · show pe_G _ _ _ _ _ _
    refine pe_iload_n d_E_worksOtherwise_130 rfl ?_
    refine pe_bipush d_E_worksOtherwise_131 ?_
    refine pe_icmp_lt (t := 140) d_E_worksOtherwise_133 (by first | exact hB _ _ | exact hB0 _ _ | exact hBt _ _ | exact ⟨by omega, by omega⟩) (by first | exact hB _ _ | exact hB0 _ _ | exact hBt _ _ | exact ⟨by omega, by omega⟩) (fun h133 => ?_) (fun h133 => ?_)
    · skip
      refine pe_iconst d_E_worksOtherwise_140 ?_
      refine pe_rz d_E_worksOtherwise_141 (by first | exact Or.inl rfl | exact Or.inr rfl | omega) ?_
      exact ⟨rfl, by omega⟩
    · skip
      refine pe_iconst d_E_worksOtherwise_136 ?_
      refine pe_goto (t := 141) d_E_worksOtherwise_137 ?_
      refine pe_rz d_E_worksOtherwise_141 (by first | exact Or.inl rfl | exact Or.inr rfl | omega) ?_
      exact ⟨rfl, by omega⟩
  refine ⟨fun h1 => ?_, fun h1_20 => ?_⟩
  · show pe_G _ _ _ _ _ _
    refine pe_iload_n d_E_worksOtherwise_130 rfl ?_
    refine pe_bipush d_E_worksOtherwise_131 ?_
    refine pe_icmp_lt (t := 140) d_E_worksOtherwise_133 (by first | exact hB _ _ | exact hB0 _ _ | exact hBt _ _ | exact ⟨by omega, by omega⟩) (by first | exact hB _ _ | exact hB0 _ _ | exact hBt _ _ | exact ⟨by omega, by omega⟩) (fun h133 => ?_) (fun h133 => ?_)
    · skip
      refine pe_iconst d_E_worksOtherwise_140 ?_
      refine pe_rz d_E_worksOtherwise_141 (by first | exact Or.inl rfl | exact Or.inr rfl | omega) ?_
      exact ⟨rfl, by omega⟩
    · skip
      refine pe_iconst d_E_worksOtherwise_136 ?_
      refine pe_goto (t := 141) d_E_worksOtherwise_137 ?_
      refine pe_rz d_E_worksOtherwise_141 (by first | exact Or.inl rfl | exact Or.inr rfl | omega) ?_
      exact ⟨rfl, by omega⟩
  refine ⟨fun h1 => ?_, fun h1_21 => ?_⟩
  · show pe_G _ _ _ _ _ _
    refine pe_iload_n d_E_worksOtherwise_130 rfl ?_
    refine pe_bipush d_E_worksOtherwise_131 ?_
    refine pe_icmp_lt (t := 140) d_E_worksOtherwise_133 (by first | exact hB _ _ | exact hB0 _ _ | exact hBt _ _ | exact ⟨by omega, by omega⟩) (by first | exact hB _ _ | exact hB0 _ _ | exact hBt _ _ | exact ⟨by omega, by omega⟩) (fun h133 => ?_) (fun h133 => ?_)
    · skip
      refine pe_iconst d_E_worksOtherwise_140 ?_
      refine pe_rz d_E_worksOtherwise_141 (by first | exact Or.inl rfl | exact Or.inr rfl | omega) ?_
      exact ⟨rfl, by omega⟩
    · skip
      refine pe_iconst d_E_worksOtherwise_136 ?_
      refine pe_goto (t := 141) d_E_worksOtherwise_137 ?_
      refine pe_rz d_E_worksOtherwise_141 (by first | exact Or.inl rfl | exact Or.inr rfl | omega) ?_
      exact ⟨rfl, by omega⟩
  refine ⟨fun h1 => ?_, fun h1_22 => ?_⟩
  · show pe_G _ _ _ _ _ _
    refine pe_iload_n d_E_worksOtherwise_130 rfl ?_
    refine pe_bipush d_E_worksOtherwise_131 ?_
    refine pe_icmp_lt (t := 140) d_E_worksOtherwise_133 (by first | exact hB _ _ | exact hB0 _ _ | exact hBt _ _ | exact ⟨by omega, by omega⟩) (by first | exact hB _ _ | exact hB0 _ _ | exact hBt _ _ | exact ⟨by omega, by omega⟩) (fun h133 => ?_) (fun h133 => ?_)
    · skip
      refine pe_iconst d_E_worksOtherwise_140 ?_
      refine pe_rz d_E_worksOtherwise_141 (by first | exact Or.inl rfl | exact Or.inr rfl | omega) ?_
      exact ⟨rfl, by omega⟩
    · skip
      refine pe_iconst d_E_worksOtherwise_136 ?_
      refine pe_goto (t := 141) d_E_worksOtherwise_137 ?_
      refine pe_rz d_E_worksOtherwise_141 (by first | exact Or.inl rfl | exact Or.inr rfl | omega) ?_
      exact ⟨rfl, by omega⟩
  refine ⟨fun h1 => ?_, fun h1_23 => ?_⟩
  · show pe_G _ _ _ _ _ _
    refine pe_iconst d_E_worksOtherwise_128 ?_
    refine pe_rz d_E_worksOtherwise_129 (by first | exact Or.inl rfl | exact Or.inr rfl | omega) ?_
    exact ⟨rfl, by omega⟩
  refine ⟨fun h1 => ?_, fun h1_24 => ?_⟩
  · show pe_G _ _ _ _ _ _
    refine pe_iload_n d_E_worksOtherwise_130 rfl ?_
    refine pe_bipush d_E_worksOtherwise_131 ?_
    refine pe_icmp_lt (t := 140) d_E_worksOtherwise_133 (by first | exact hB _ _ | exact hB0 _ _ | exact hBt _ _ | exact ⟨by omega, by omega⟩) (by first | exact hB _ _ | exact hB0 _ _ | exact hBt _ _ | exact ⟨by omega, by omega⟩) (fun h133 => ?_) (fun h133 => ?_)
    · skip
      refine pe_iconst d_E_worksOtherwise_140 ?_
      refine pe_rz d_E_worksOtherwise_141 (by first | exact Or.inl rfl | exact Or.inr rfl | omega) ?_
      exact ⟨rfl, by omega⟩
    · skip
      refine pe_iconst d_E_worksOtherwise_136 ?_
      refine pe_goto (t := 141) d_E_worksOtherwise_137 ?_
      refine pe_rz d_E_worksOtherwise_141 (by first | exact Or.inl rfl | exact Or.inr rfl | omega) ?_
      exact ⟨rfl, by omega⟩
  refine ⟨fun h1 => ?_, fun h1_25 => ?_⟩
  · show pe_G _ _ _ _ _ _
    refine pe_iconst d_E_worksOtherwise_128 ?_
    refine pe_rz d_E_worksOtherwise_129 (by first | exact Or.inl rfl | exact Or.inr rfl | omega) ?_
    exact ⟨rfl, by omega⟩
  refine ⟨fun h1 => ?_, fun h1_26 => ?_⟩
  · show pe_G _ _ _ _ _ _
    refine pe_iconst d_E_worksOtherwise_128 ?_
    refine pe_rz d_E_worksOtherwise_129 (by first | exact Or.inl rfl | exact Or.inr rfl | omega) ?_
    exact ⟨rfl, by omega⟩
  refine ⟨fun h1 => ?_, fun h1_27 => ?_⟩
  · show pe_G _ _ _ _ _ _
    refine pe_iconst d_E_worksOtherwise_128 ?_
    refine pe_rz d_E_worksOtherwise_129 (by first | exact Or.inl rfl | exact Or.inr rfl | omega) ?_
    exact ⟨rfl, by omega⟩
  show pe_G _ _ _ _ _ _
  refine pe_iload_n d_E_worksOtherwise_130 rfl ?_
  refine pe_bipush d_E_worksOtherwise_131 ?_
  refine pe_icmp_lt (t := 140) d_E_worksOtherwise_133 (by first | exact hB _ _ | exact hB0 _ _ | exact hBt _ _ | exact ⟨by omega, by omega⟩) (by first | exact hB _ _ | exact hB0 _ _ | exact hBt _ _ | exact ⟨by omega, by omega⟩) (fun h133 => ?_) (fun h133 => ?_)
  · skip
    refine pe_iconst d_E_worksOtherwise_140 ?_
    refine pe_rz d_E_worksOtherwise_141 (by first | exact Or.inl rfl | exact Or.inr rfl | omega) ?_
    exact ⟨rfl, by omega⟩
  · skip
    refine pe_iconst d_E_worksOtherwise_136 ?_
    refine pe_goto (t := 141) d_E_worksOtherwise_137 ?_
    refine pe_rz d_E_worksOtherwise_141 (by first | exact Or.inl rfl | exact Or.inr rfl | omega) ?_
    exact ⟨rfl, by omega⟩
set_option maxHeartbeats 2000000 in
theorem x_E_command {m σ : pe_H} {k : Int} (hB : pe_B σ) (hA : pe_ca m σ) (hw : pe_wf m) (hk : m 5 0 ≤ 11) (hkr : pe_R k) : pe_M m_E_command [pe_r 2, pe_i k] σ (pe_qv (fun σ' => pe_B σ' ∧ (∀ b, b ∉ [2, 3, 4, 5, 6, 7, 8, 9, 10, 15, 16] → σ' b = σ b) ∧ pe_ca (pe_eCmd m k) σ')) := by
  refine pe_in0 (lv := [some (pe_r 2), some (pe_i k)]) ?_
  have hB0 := hB
  obtain ⟨⟨⟨a1, a2, a3, a4, a5⟩, ⟨a6, a7⟩, a8, a9⟩, A2, A3, A4⟩ := id hA
  obtain ⟨⟨w1, w2, w3, w4, w5, w6, w7, w8⟩, W2, W3⟩ := id hw
  have ag : ∀ j, 0 ≤ j → j < σ 3 1 → σ 4 j = m 8 j := fun j h0 h1 => A2 j h0 (by omega)
  have hv : ∀ j, 0 ≤ j → j < σ 3 1 → σ 4 j = 9 ∨ σ 4 j = 10 ∨ (32 ≤ σ 4 j ∧ σ 4 j ≤ 65535) := fun j h0 h1 => by rw [ag j h0 h1]; exact W2.1 j h0 (by omega)
  refine pe_iload_n d_E_command_0 rfl ?_
  refine pe_lsw [(0, 310), (8, 190), (9, 156), (10, 174), (12, 329), (13, 165), (23, 337), (25, 344), (26, 359), (27, 321), (127, 190), (65538, 254), (65539, 236), (65540, 274), (65541, 292), (65542, 212), (65543, 366), (65544, 374)] (dt := 382) d_E_command_1 (by first | exact hB _ _ | exact hB0 _ _ | exact hBt _ _ | exact ⟨by omega, by omega⟩) ?_
  refine ⟨fun h1 => ?_, fun h1_0 => ?_⟩
  · show pe_G _ _ _ _ _ _
    refine pe_aload_n d_E_command_310 rfl ?_
    refine pe_aload_n d_E_command_311 rfl ?_
    refine pe_geti f_E_78 d_E_command_312 rfl rfl 7 rfl ?_
    refine pe_putiT f_E_39 g_2_8 d_E_command_315 rfl rfl 8 rfl hB (by first | exact hB _ _ | exact hB0 _ _ | exact hBt _ _ | exact ⟨by omega, by omega⟩) (fun σ315 hB e315 o315 f315 => ?_)
    try have u315_0 : σ315 2 5 = σ 2 5 := by first | exact o315 5 (by decide) | exact congrFun (f315 2 (by decide)) 5
    try have u315_1 : σ315 2 6 = σ 2 6 := by first | exact o315 6 (by decide) | exact congrFun (f315 2 (by decide)) 6
    try have u315_2 : σ315 2 7 = σ 2 7 := by first | exact o315 7 (by decide) | exact congrFun (f315 2 (by decide)) 7
    try have u315_3 : σ315 2 8 = σ 2 8 := by first | exact o315 8 (by decide) | exact congrFun (f315 2 (by decide)) 8
    try have u315_4 : σ315 2 9 = σ 2 9 := by first | exact o315 9 (by decide) | exact congrFun (f315 2 (by decide)) 9
    try have u315_5 : σ315 2 10 = σ 2 10 := by first | exact o315 10 (by decide) | exact congrFun (f315 2 (by decide)) 10
    try have u315_6 : σ315 3 1 = σ 3 1 := by first | exact o315 1 (by decide) | exact congrFun (f315 3 (by decide)) 1
    have xx : pe_ca (pe_eCmd m k) σ315 := by
      unfold pe_eCmd
      repeat (first | rw [if_pos (by omega)] | rw [if_neg (by omega)])
      exact pe_ca_mk hA f315 o315 (e315.trans a2)
    refine pe_goto (t := 382) d_E_command_318 ?_
    refine pe_rv d_E_command_382 ?_
    first
    | exact ⟨hB, (fun b hb => (f315 b (by simp at hb ⊢; try omega)).trans (rfl)), xx⟩
    | (have xx : pe_ca (pe_eCmd m k) σ := by
         unfold pe_eCmd
         repeat (first | rw [if_pos (by omega)] | rw [if_neg (by omega)])
         exact hA
       exact ⟨hB, (fun b hb => (f315 b (by simp at hb ⊢; try omega)).trans (rfl)), xx⟩)
  refine ⟨fun h1 => ?_, fun h1_1 => ?_⟩
  · show pe_G _ _ _ _ _ _
    refine pe_aload_n d_E_command_190 rfl ?_
    refine pe_aload_n d_E_command_191 rfl ?_
    refine pe_getr f_E_12 d_E_command_192 rfl rfl ?_
    refine pe_aload_n d_E_command_195 rfl ?_
    refine pe_geti f_E_78 d_E_command_196 rfl rfl 7 rfl ?_
    refine pe_v1p d_E_command_199 c_E_86 i_T_beginningAhead s_T_beginningAhead rfl rfl (x_T_beginningAhead hB (by omega) (by omega) hv) (fun z199 hz199 => ?_)
    refine pe_aload_n d_E_command_202 rfl ?_
    refine pe_geti f_E_78 d_E_command_203 rfl rfl 7 rfl ?_
    refine pe_v2v d_E_command_206 c_E_89 i_E_removeBetween s_E_removeBetween rfl rfl (x_E_removeBetween hB hA hw hk (by omega)) (fun σ206 hz206 => ?_)
    obtain ⟨hB, f206, x206⟩ := hz206
    try have u206_0 : σ206 2 5 = σ 2 5 := by first | exact o206 5 (by decide) | exact congrFun (f206 2 (by decide)) 5
    try have u206_1 : σ206 2 6 = σ 2 6 := by first | exact o206 6 (by decide) | exact congrFun (f206 2 (by decide)) 6
    try have u206_2 : σ206 2 7 = σ 2 7 := by first | exact o206 7 (by decide) | exact congrFun (f206 2 (by decide)) 7
    try have u206_3 : σ206 2 8 = σ 2 8 := by first | exact o206 8 (by decide) | exact congrFun (f206 2 (by decide)) 8
    try have u206_4 : σ206 2 9 = σ 2 9 := by first | exact o206 9 (by decide) | exact congrFun (f206 2 (by decide)) 9
    try have u206_5 : σ206 2 10 = σ 2 10 := by first | exact o206 10 (by decide) | exact congrFun (f206 2 (by decide)) 10
    try have u206_6 : σ206 3 1 = σ 3 1 := by first | exact o206 1 (by decide) | exact congrFun (f206 3 (by decide)) 1
    rw [a2] at x206 hz199
    rw [a1] at hz199
    have xx : pe_ca (pe_eCmd m k) σ206 := by
      by_cases hq : m 1 0 = 0
      · unfold pe_eCmd
        repeat (first | rw [if_pos (by omega)] | rw [if_neg (by omega)])
        have e : pe_eDel m z199 (m 1 0) = m := by unfold pe_eDel; rw [if_pos (by omega)]
        rw [e] at x206; exact x206
      · unfold pe_eCmd
        repeat (first | rw [if_pos (by omega)] | rw [if_neg (by omega)])
        rw [pe_ba_of (t' := m 8) A2 ⟨hz199.1.1, hz199.1.2.1 (by omega)⟩ hz199.2.1 hz199.2.2] at x206; exact x206
    refine pe_goto (t := 382) d_E_command_209 ?_
    refine pe_rv d_E_command_382 ?_
    first
    | exact ⟨hB, (fun b hb => (f206 b (by simp at hb ⊢; try omega)).trans (rfl)), xx⟩
    | (have xx : pe_ca (pe_eCmd m k) σ := by
         unfold pe_eCmd
         repeat (first | rw [if_pos (by omega)] | rw [if_neg (by omega)])
         exact hA
       exact ⟨hB, (fun b hb => (f206 b (by simp at hb ⊢; try omega)).trans (rfl)), xx⟩)
  refine ⟨fun h1 => ?_, fun h1_2 => ?_⟩
  · show pe_G _ _ _ _ _ _
    refine pe_aload_n d_E_command_156 rfl ?_
    refine pe_bipush d_E_command_157 ?_
    refine pe_v1v d_E_command_159 c_E_72 i_E_insertOne s_E_insertOne rfl rfl (x_E_insertOne hB hA hw hk (by first | exact hB _ _ | exact hB0 _ _ | exact hBt _ _ | exact ⟨by omega, by omega⟩)) (fun σ159 hz159 => ?_)
    obtain ⟨hB, f159, x159⟩ := hz159
    try have u159_0 : σ159 2 5 = σ 2 5 := by first | exact o159 5 (by decide) | exact congrFun (f159 2 (by decide)) 5
    try have u159_1 : σ159 2 6 = σ 2 6 := by first | exact o159 6 (by decide) | exact congrFun (f159 2 (by decide)) 6
    try have u159_2 : σ159 2 7 = σ 2 7 := by first | exact o159 7 (by decide) | exact congrFun (f159 2 (by decide)) 7
    try have u159_3 : σ159 2 8 = σ 2 8 := by first | exact o159 8 (by decide) | exact congrFun (f159 2 (by decide)) 8
    try have u159_4 : σ159 2 9 = σ 2 9 := by first | exact o159 9 (by decide) | exact congrFun (f159 2 (by decide)) 9
    try have u159_5 : σ159 2 10 = σ 2 10 := by first | exact o159 10 (by decide) | exact congrFun (f159 2 (by decide)) 10
    try have u159_6 : σ159 3 1 = σ 3 1 := by first | exact o159 1 (by decide) | exact congrFun (f159 3 (by decide)) 1
    have xx : pe_ca (pe_eCmd m k) σ159 := by
      unfold pe_eCmd
      repeat (first | rw [if_pos (by omega)] | rw [if_neg (by omega)])
      exact x159
    refine pe_goto (t := 382) d_E_command_162 ?_
    refine pe_rv d_E_command_382 ?_
    first
    | exact ⟨hB, (fun b hb => (f159 b (by simp at hb ⊢; try omega)).trans (rfl)), xx⟩
    | (have xx : pe_ca (pe_eCmd m k) σ := by
         unfold pe_eCmd
         repeat (first | rw [if_pos (by omega)] | rw [if_neg (by omega)])
         exact hA
       exact ⟨hB, (fun b hb => (f159 b (by simp at hb ⊢; try omega)).trans (rfl)), xx⟩)
  refine ⟨fun h1 => ?_, fun h1_3 => ?_⟩
  · show pe_G _ _ _ _ _ _
    refine pe_aload_n d_E_command_174 rfl ?_
    refine pe_geti f_E_55 d_E_command_175 rfl rfl 10 rfl ?_
    refine pe_if_eq (t := 382) d_E_command_178 (by first | exact hB _ _ | exact hB0 _ _ | exact hBt _ _ | exact ⟨by omega, by omega⟩) (fun h178 => ?_) (fun h178 => ?_)
    · skip
      refine pe_rv d_E_command_382 ?_
      first
      | exact ⟨hB, (fun b hb => rfl), xx⟩
      | (have xx : pe_ca (pe_eCmd m k) σ := by
           unfold pe_eCmd
           repeat (first | rw [if_pos (by omega)] | rw [if_neg (by omega)])
           exact hA
         exact ⟨hB, (fun b hb => rfl), xx⟩)
    · skip
      refine pe_aload_n d_E_command_181 rfl ?_
      refine pe_bipush d_E_command_182 ?_
      refine pe_v1v d_E_command_184 c_E_72 i_E_insertOne s_E_insertOne rfl rfl (x_E_insertOne hB hA hw hk (by first | exact hB _ _ | exact hB0 _ _ | exact hBt _ _ | exact ⟨by omega, by omega⟩)) (fun σ184 hz184 => ?_)
      obtain ⟨hB, f184, x184⟩ := hz184
      try have u184_0 : σ184 2 5 = σ 2 5 := by first | exact o184 5 (by decide) | exact congrFun (f184 2 (by decide)) 5
      try have u184_1 : σ184 2 6 = σ 2 6 := by first | exact o184 6 (by decide) | exact congrFun (f184 2 (by decide)) 6
      try have u184_2 : σ184 2 7 = σ 2 7 := by first | exact o184 7 (by decide) | exact congrFun (f184 2 (by decide)) 7
      try have u184_3 : σ184 2 8 = σ 2 8 := by first | exact o184 8 (by decide) | exact congrFun (f184 2 (by decide)) 8
      try have u184_4 : σ184 2 9 = σ 2 9 := by first | exact o184 9 (by decide) | exact congrFun (f184 2 (by decide)) 9
      try have u184_5 : σ184 2 10 = σ 2 10 := by first | exact o184 10 (by decide) | exact congrFun (f184 2 (by decide)) 10
      try have u184_6 : σ184 3 1 = σ 3 1 := by first | exact o184 1 (by decide) | exact congrFun (f184 3 (by decide)) 1
      have xx : pe_ca (pe_eCmd m k) σ184 := by
        unfold pe_eCmd
        repeat (first | rw [if_pos (by omega)] | rw [if_neg (by omega)])
        exact x184
      refine pe_goto (t := 382) d_E_command_187 ?_
      refine pe_rv d_E_command_382 ?_
      first
      | exact ⟨hB, (fun b hb => (f184 b (by simp at hb ⊢; try omega)).trans (rfl)), xx⟩
      | (have xx : pe_ca (pe_eCmd m k) σ := by
           unfold pe_eCmd
           repeat (first | rw [if_pos (by omega)] | rw [if_neg (by omega)])
           exact hA
         exact ⟨hB, (fun b hb => (f184 b (by simp at hb ⊢; try omega)).trans (rfl)), xx⟩)
  refine ⟨fun h1 => ?_, fun h1_4 => ?_⟩
  · show pe_G _ _ _ _ _ _
    refine pe_aload_n d_E_command_329 rfl ?_
    refine pe_iconst d_E_command_330 ?_
    refine pe_putzT f_E_46 g_2_11 d_E_command_331 rfl rfl (by first | exact Or.inl rfl | exact Or.inr rfl | omega) 11 rfl hB (fun σ331 hB e331 o331 f331 => ?_)
    try have u331_0 : σ331 2 5 = σ 2 5 := by first | exact o331 5 (by decide) | exact congrFun (f331 2 (by decide)) 5
    try have u331_1 : σ331 2 6 = σ 2 6 := by first | exact o331 6 (by decide) | exact congrFun (f331 2 (by decide)) 6
    try have u331_2 : σ331 2 7 = σ 2 7 := by first | exact o331 7 (by decide) | exact congrFun (f331 2 (by decide)) 7
    try have u331_3 : σ331 2 8 = σ 2 8 := by first | exact o331 8 (by decide) | exact congrFun (f331 2 (by decide)) 8
    try have u331_4 : σ331 2 9 = σ 2 9 := by first | exact o331 9 (by decide) | exact congrFun (f331 2 (by decide)) 9
    try have u331_5 : σ331 2 10 = σ 2 10 := by first | exact o331 10 (by decide) | exact congrFun (f331 2 (by decide)) 10
    try have u331_6 : σ331 3 1 = σ 3 1 := by first | exact o331 1 (by decide) | exact congrFun (f331 3 (by decide)) 1
    have xx : pe_ca (pe_eCmd m k) σ331 := by
      unfold pe_eCmd
      repeat (first | rw [if_pos (by omega)] | rw [if_neg (by omega)])
      exact pe_ca_11 hA f331 o331
    refine pe_goto (t := 382) d_E_command_334 ?_
    refine pe_rv d_E_command_382 ?_
    first
    | exact ⟨hB, (fun b hb => (f331 b (by simp at hb ⊢; try omega)).trans (rfl)), xx⟩
    | (have xx : pe_ca (pe_eCmd m k) σ := by
         unfold pe_eCmd
         repeat (first | rw [if_pos (by omega)] | rw [if_neg (by omega)])
         exact hA
       exact ⟨hB, (fun b hb => (f331 b (by simp at hb ⊢; try omega)).trans (rfl)), xx⟩)
  refine ⟨fun h1 => ?_, fun h1_5 => ?_⟩
  · show pe_G _ _ _ _ _ _
    refine pe_aload_n d_E_command_165 rfl ?_
    refine pe_bipush d_E_command_166 ?_
    refine pe_v1v d_E_command_168 c_E_72 i_E_insertOne s_E_insertOne rfl rfl (x_E_insertOne hB hA hw hk (by first | exact hB _ _ | exact hB0 _ _ | exact hBt _ _ | exact ⟨by omega, by omega⟩)) (fun σ168 hz168 => ?_)
    obtain ⟨hB, f168, x168⟩ := hz168
    try have u168_0 : σ168 2 5 = σ 2 5 := by first | exact o168 5 (by decide) | exact congrFun (f168 2 (by decide)) 5
    try have u168_1 : σ168 2 6 = σ 2 6 := by first | exact o168 6 (by decide) | exact congrFun (f168 2 (by decide)) 6
    try have u168_2 : σ168 2 7 = σ 2 7 := by first | exact o168 7 (by decide) | exact congrFun (f168 2 (by decide)) 7
    try have u168_3 : σ168 2 8 = σ 2 8 := by first | exact o168 8 (by decide) | exact congrFun (f168 2 (by decide)) 8
    try have u168_4 : σ168 2 9 = σ 2 9 := by first | exact o168 9 (by decide) | exact congrFun (f168 2 (by decide)) 9
    try have u168_5 : σ168 2 10 = σ 2 10 := by first | exact o168 10 (by decide) | exact congrFun (f168 2 (by decide)) 10
    try have u168_6 : σ168 3 1 = σ 3 1 := by first | exact o168 1 (by decide) | exact congrFun (f168 3 (by decide)) 1
    have xx : pe_ca (pe_eCmd m k) σ168 := by
      unfold pe_eCmd
      repeat (first | rw [if_pos (by omega)] | rw [if_neg (by omega)])
      exact x168
    refine pe_goto (t := 382) d_E_command_171 ?_
    refine pe_rv d_E_command_382 ?_
    first
    | exact ⟨hB, (fun b hb => (f168 b (by simp at hb ⊢; try omega)).trans (rfl)), xx⟩
    | (have xx : pe_ca (pe_eCmd m k) σ := by
         unfold pe_eCmd
         repeat (first | rw [if_pos (by omega)] | rw [if_neg (by omega)])
         exact hA
       exact ⟨hB, (fun b hb => (f168 b (by simp at hb ⊢; try omega)).trans (rfl)), xx⟩)
  refine ⟨fun h1 => ?_, fun h1_6 => ?_⟩
  · show pe_G _ _ _ _ _ _
    refine pe_aload_n d_E_command_337 rfl ?_
    refine pe_v0v d_E_command_338 c_E_99 i_E_cut s_E_cut rfl rfl (x_E_cut hB hA hw hk) (fun σ338 hz338 => ?_)
    obtain ⟨hB, f338, x338⟩ := hz338
    try have u338_0 : σ338 2 5 = σ 2 5 := by first | exact o338 5 (by decide) | exact congrFun (f338 2 (by decide)) 5
    try have u338_1 : σ338 2 6 = σ 2 6 := by first | exact o338 6 (by decide) | exact congrFun (f338 2 (by decide)) 6
    try have u338_2 : σ338 2 7 = σ 2 7 := by first | exact o338 7 (by decide) | exact congrFun (f338 2 (by decide)) 7
    try have u338_3 : σ338 2 8 = σ 2 8 := by first | exact o338 8 (by decide) | exact congrFun (f338 2 (by decide)) 8
    try have u338_4 : σ338 2 9 = σ 2 9 := by first | exact o338 9 (by decide) | exact congrFun (f338 2 (by decide)) 9
    try have u338_5 : σ338 2 10 = σ 2 10 := by first | exact o338 10 (by decide) | exact congrFun (f338 2 (by decide)) 10
    try have u338_6 : σ338 3 1 = σ 3 1 := by first | exact o338 1 (by decide) | exact congrFun (f338 3 (by decide)) 1
    have xx : pe_ca (pe_eCmd m k) σ338 := by
      unfold pe_eCmd
      repeat (first | rw [if_pos (by omega)] | rw [if_neg (by omega)])
      exact x338
    refine pe_goto (t := 382) d_E_command_341 ?_
    refine pe_rv d_E_command_382 ?_
    first
    | exact ⟨hB, (fun b hb => (f338 b (by simp at hb ⊢; try omega)).trans (rfl)), xx⟩
    | (have xx : pe_ca (pe_eCmd m k) σ := by
         unfold pe_eCmd
         repeat (first | rw [if_pos (by omega)] | rw [if_neg (by omega)])
         exact hA
       exact ⟨hB, (fun b hb => (f338 b (by simp at hb ⊢; try omega)).trans (rfl)), xx⟩)
  refine ⟨fun h1 => ?_, fun h1_7 => ?_⟩
  · show pe_G _ _ _ _ _ _
    refine pe_aload_n d_E_command_344 rfl ?_
    refine pe_aload_n d_E_command_345 rfl ?_
    refine pe_getr f_E_32 d_E_command_346 rfl rfl ?_
    refine pe_aload_n d_E_command_349 rfl ?_
    refine pe_geti f_E_102 d_E_command_350 rfl rfl 5 rfl ?_
    refine pe_v2v d_E_command_353 c_E_105 i_E_insert s_E_insert rfl rfl (x_E_insert_15 hB hA hw hk (by omega) (s := m 9) (fun j h0 h1 => A3 j h0 (by omega))) (fun σ353 hz353 => ?_)
    obtain ⟨hB, f353, x353⟩ := hz353
    try have u353_0 : σ353 2 5 = σ 2 5 := by first | exact o353 5 (by decide) | exact congrFun (f353 2 (by decide)) 5
    try have u353_1 : σ353 2 6 = σ 2 6 := by first | exact o353 6 (by decide) | exact congrFun (f353 2 (by decide)) 6
    try have u353_2 : σ353 2 7 = σ 2 7 := by first | exact o353 7 (by decide) | exact congrFun (f353 2 (by decide)) 7
    try have u353_3 : σ353 2 8 = σ 2 8 := by first | exact o353 8 (by decide) | exact congrFun (f353 2 (by decide)) 8
    try have u353_4 : σ353 2 9 = σ 2 9 := by first | exact o353 9 (by decide) | exact congrFun (f353 2 (by decide)) 9
    try have u353_5 : σ353 2 10 = σ 2 10 := by first | exact o353 10 (by decide) | exact congrFun (f353 2 (by decide)) 10
    try have u353_6 : σ353 3 1 = σ 3 1 := by first | exact o353 1 (by decide) | exact congrFun (f353 3 (by decide)) 1
    rw [a4] at x353
    have xx : pe_ca (pe_eCmd m k) σ353 := by
      unfold pe_eCmd
      repeat (first | rw [if_pos (by omega)] | rw [if_neg (by omega)])
      exact x353
    refine pe_goto (t := 382) d_E_command_356 ?_
    refine pe_rv d_E_command_382 ?_
    first
    | exact ⟨hB, (fun b hb => (f353 b (by simp at hb ⊢; try omega)).trans (rfl)), xx⟩
    | (have xx : pe_ca (pe_eCmd m k) σ := by
         unfold pe_eCmd
         repeat (first | rw [if_pos (by omega)] | rw [if_neg (by omega)])
         exact hA
       exact ⟨hB, (fun b hb => (f353 b (by simp at hb ⊢; try omega)).trans (rfl)), xx⟩)
  refine ⟨fun h1 => ?_, fun h1_8 => ?_⟩
  · show pe_G _ _ _ _ _ _
    refine pe_aload_n d_E_command_359 rfl ?_
    refine pe_v0v d_E_command_360 c_E_109 i_E_undo s_E_undo rfl rfl (x_E_undo hB hA hw hk) (fun σ360 hz360 => ?_)
    obtain ⟨hB, f360, x360⟩ := hz360
    try have u360_0 : σ360 2 5 = σ 2 5 := by first | exact o360 5 (by decide) | exact congrFun (f360 2 (by decide)) 5
    try have u360_1 : σ360 2 6 = σ 2 6 := by first | exact o360 6 (by decide) | exact congrFun (f360 2 (by decide)) 6
    try have u360_2 : σ360 2 7 = σ 2 7 := by first | exact o360 7 (by decide) | exact congrFun (f360 2 (by decide)) 7
    try have u360_3 : σ360 2 8 = σ 2 8 := by first | exact o360 8 (by decide) | exact congrFun (f360 2 (by decide)) 8
    try have u360_4 : σ360 2 9 = σ 2 9 := by first | exact o360 9 (by decide) | exact congrFun (f360 2 (by decide)) 9
    try have u360_5 : σ360 2 10 = σ 2 10 := by first | exact o360 10 (by decide) | exact congrFun (f360 2 (by decide)) 10
    try have u360_6 : σ360 3 1 = σ 3 1 := by first | exact o360 1 (by decide) | exact congrFun (f360 3 (by decide)) 1
    have xx : pe_ca (pe_eCmd m k) σ360 := by
      unfold pe_eCmd
      repeat (first | rw [if_pos (by omega)] | rw [if_neg (by omega)])
      exact x360
    refine pe_goto (t := 382) d_E_command_363 ?_
    refine pe_rv d_E_command_382 ?_
    first
    | exact ⟨hB, (fun b hb => (f360 b (by simp at hb ⊢; try omega)).trans (rfl)), xx⟩
    | (have xx : pe_ca (pe_eCmd m k) σ := by
         unfold pe_eCmd
         repeat (first | rw [if_pos (by omega)] | rw [if_neg (by omega)])
         exact hA
       exact ⟨hB, (fun b hb => (f360 b (by simp at hb ⊢; try omega)).trans (rfl)), xx⟩)
  refine ⟨fun h1 => ?_, fun h1_9 => ?_⟩
  · show pe_G _ _ _ _ _ _
    refine pe_aload_n d_E_command_321 rfl ?_
    refine pe_iconst d_E_command_322 ?_
    refine pe_putiT f_E_39 g_2_8 d_E_command_323 rfl rfl 8 rfl hB (by first | exact hB _ _ | exact hB0 _ _ | exact hBt _ _ | exact ⟨by omega, by omega⟩) (fun σ323 hB e323 o323 f323 => ?_)
    try have u323_0 : σ323 2 5 = σ 2 5 := by first | exact o323 5 (by decide) | exact congrFun (f323 2 (by decide)) 5
    try have u323_1 : σ323 2 6 = σ 2 6 := by first | exact o323 6 (by decide) | exact congrFun (f323 2 (by decide)) 6
    try have u323_2 : σ323 2 7 = σ 2 7 := by first | exact o323 7 (by decide) | exact congrFun (f323 2 (by decide)) 7
    try have u323_3 : σ323 2 8 = σ 2 8 := by first | exact o323 8 (by decide) | exact congrFun (f323 2 (by decide)) 8
    try have u323_4 : σ323 2 9 = σ 2 9 := by first | exact o323 9 (by decide) | exact congrFun (f323 2 (by decide)) 9
    try have u323_5 : σ323 2 10 = σ 2 10 := by first | exact o323 10 (by decide) | exact congrFun (f323 2 (by decide)) 10
    try have u323_6 : σ323 3 1 = σ 3 1 := by first | exact o323 1 (by decide) | exact congrFun (f323 3 (by decide)) 1
    have xx : pe_ca (pe_eCmd m k) σ323 := by
      unfold pe_eCmd
      repeat (first | rw [if_pos (by omega)] | rw [if_neg (by omega)])
      exact pe_ca_mk hA f323 o323 e323
    refine pe_goto (t := 382) d_E_command_326 ?_
    refine pe_rv d_E_command_382 ?_
    first
    | exact ⟨hB, (fun b hb => (f323 b (by simp at hb ⊢; try omega)).trans (rfl)), xx⟩
    | (have xx : pe_ca (pe_eCmd m k) σ := by
         unfold pe_eCmd
         repeat (first | rw [if_pos (by omega)] | rw [if_neg (by omega)])
         exact hA
       exact ⟨hB, (fun b hb => (f323 b (by simp at hb ⊢; try omega)).trans (rfl)), xx⟩)
  refine ⟨fun h1 => ?_, fun h1_10 => ?_⟩
  · show pe_G _ _ _ _ _ _
    refine pe_aload_n d_E_command_190 rfl ?_
    refine pe_aload_n d_E_command_191 rfl ?_
    refine pe_getr f_E_12 d_E_command_192 rfl rfl ?_
    refine pe_aload_n d_E_command_195 rfl ?_
    refine pe_geti f_E_78 d_E_command_196 rfl rfl 7 rfl ?_
    refine pe_v1p d_E_command_199 c_E_86 i_T_beginningAhead s_T_beginningAhead rfl rfl (x_T_beginningAhead hB (by omega) (by omega) hv) (fun z199 hz199 => ?_)
    refine pe_aload_n d_E_command_202 rfl ?_
    refine pe_geti f_E_78 d_E_command_203 rfl rfl 7 rfl ?_
    refine pe_v2v d_E_command_206 c_E_89 i_E_removeBetween s_E_removeBetween rfl rfl (x_E_removeBetween hB hA hw hk (by omega)) (fun σ206 hz206 => ?_)
    obtain ⟨hB, f206, x206⟩ := hz206
    try have u206_0 : σ206 2 5 = σ 2 5 := by first | exact o206 5 (by decide) | exact congrFun (f206 2 (by decide)) 5
    try have u206_1 : σ206 2 6 = σ 2 6 := by first | exact o206 6 (by decide) | exact congrFun (f206 2 (by decide)) 6
    try have u206_2 : σ206 2 7 = σ 2 7 := by first | exact o206 7 (by decide) | exact congrFun (f206 2 (by decide)) 7
    try have u206_3 : σ206 2 8 = σ 2 8 := by first | exact o206 8 (by decide) | exact congrFun (f206 2 (by decide)) 8
    try have u206_4 : σ206 2 9 = σ 2 9 := by first | exact o206 9 (by decide) | exact congrFun (f206 2 (by decide)) 9
    try have u206_5 : σ206 2 10 = σ 2 10 := by first | exact o206 10 (by decide) | exact congrFun (f206 2 (by decide)) 10
    try have u206_6 : σ206 3 1 = σ 3 1 := by first | exact o206 1 (by decide) | exact congrFun (f206 3 (by decide)) 1
    rw [a2] at x206 hz199
    rw [a1] at hz199
    have xx : pe_ca (pe_eCmd m k) σ206 := by
      by_cases hq : m 1 0 = 0
      · unfold pe_eCmd
        repeat (first | rw [if_pos (by omega)] | rw [if_neg (by omega)])
        have e : pe_eDel m z199 (m 1 0) = m := by unfold pe_eDel; rw [if_pos (by omega)]
        rw [e] at x206; exact x206
      · unfold pe_eCmd
        repeat (first | rw [if_pos (by omega)] | rw [if_neg (by omega)])
        rw [pe_ba_of (t' := m 8) A2 ⟨hz199.1.1, hz199.1.2.1 (by omega)⟩ hz199.2.1 hz199.2.2] at x206; exact x206
    refine pe_goto (t := 382) d_E_command_209 ?_
    refine pe_rv d_E_command_382 ?_
    first
    | exact ⟨hB, (fun b hb => (f206 b (by simp at hb ⊢; try omega)).trans (rfl)), xx⟩
    | (have xx : pe_ca (pe_eCmd m k) σ := by
         unfold pe_eCmd
         repeat (first | rw [if_pos (by omega)] | rw [if_neg (by omega)])
         exact hA
       exact ⟨hB, (fun b hb => (f206 b (by simp at hb ⊢; try omega)).trans (rfl)), xx⟩)
  refine ⟨fun h1 => ?_, fun h1_11 => ?_⟩
  · show pe_G _ _ _ _ _ _
    refine pe_aload_n d_E_command_254 rfl ?_
    refine pe_aload_n d_E_command_255 rfl ?_
    refine pe_getr f_E_12 d_E_command_256 rfl rfl ?_
    refine pe_aload_n d_E_command_259 rfl ?_
    refine pe_geti f_E_78 d_E_command_260 rfl rfl 7 rfl ?_
    refine pe_iconst d_E_command_263 ?_
    refine pe_iadd d_E_command_264 ?_
    refine pe_v1p d_E_command_265 c_E_81 i_T_beginningFrom s_T_beginningFrom rfl rfl (x_T_beginningFrom hB (by omega) (by omega) hv) (fun z265 hz265 => ?_)
    refine pe_putiT f_E_78 g_2_7 d_E_command_268 rfl rfl 7 rfl hB (by first | exact hB _ _ | exact hB0 _ _ | exact hBt _ _ | exact ⟨by omega, by omega⟩) (fun σ268 hB e268 o268 f268 => ?_)
    try have u268_0 : σ268 2 5 = σ 2 5 := by first | exact o268 5 (by decide) | exact congrFun (f268 2 (by decide)) 5
    try have u268_1 : σ268 2 6 = σ 2 6 := by first | exact o268 6 (by decide) | exact congrFun (f268 2 (by decide)) 6
    try have u268_2 : σ268 2 7 = σ 2 7 := by first | exact o268 7 (by decide) | exact congrFun (f268 2 (by decide)) 7
    try have u268_3 : σ268 2 8 = σ 2 8 := by first | exact o268 8 (by decide) | exact congrFun (f268 2 (by decide)) 8
    try have u268_4 : σ268 2 9 = σ 2 9 := by first | exact o268 9 (by decide) | exact congrFun (f268 2 (by decide)) 9
    try have u268_5 : σ268 2 10 = σ 2 10 := by first | exact o268 10 (by decide) | exact congrFun (f268 2 (by decide)) 10
    try have u268_6 : σ268 3 1 = σ 3 1 := by first | exact o268 1 (by decide) | exact congrFun (f268 3 (by decide)) 1
    rw [a2, a1] at hz265
    have hc := pe_ca_cur hA f268 o268 e268
    have xx : pe_ca (pe_eCmd m k) σ268 := by
      by_cases hq : m 1 0 = m 0 0
      · unfold pe_eCmd
        repeat (first | rw [if_pos (by omega)] | rw [if_neg (by omega)])
        exact pe_ca_S1 hc (by omega)
      · unfold pe_eCmd
        repeat (first | rw [if_pos (by omega)] | rw [if_neg (by omega)])
        rw [pe_bf_of (t' := m 8) A2 (by omega) (by omega) hz265.2.1 hz265.2.2] at hc; exact hc
    refine pe_goto (t := 382) d_E_command_271 ?_
    refine pe_rv d_E_command_382 ?_
    first
    | exact ⟨hB, (fun b hb => (f268 b (by simp at hb ⊢; try omega)).trans (rfl)), xx⟩
    | (have xx : pe_ca (pe_eCmd m k) σ := by
         unfold pe_eCmd
         repeat (first | rw [if_pos (by omega)] | rw [if_neg (by omega)])
         exact hA
       exact ⟨hB, (fun b hb => (f268 b (by simp at hb ⊢; try omega)).trans (rfl)), xx⟩)
  refine ⟨fun h1 => ?_, fun h1_12 => ?_⟩
  · show pe_G _ _ _ _ _ _
    refine pe_aload_n d_E_command_236 rfl ?_
    refine pe_aload_n d_E_command_237 rfl ?_
    refine pe_getr f_E_12 d_E_command_238 rfl rfl ?_
    refine pe_aload_n d_E_command_241 rfl ?_
    refine pe_geti f_E_78 d_E_command_242 rfl rfl 7 rfl ?_
    refine pe_v1p d_E_command_245 c_E_86 i_T_beginningAhead s_T_beginningAhead rfl rfl (x_T_beginningAhead hB (by omega) (by omega) hv) (fun z245 hz245 => ?_)
    refine pe_putiT f_E_78 g_2_7 d_E_command_248 rfl rfl 7 rfl hB (by first | exact hB _ _ | exact hB0 _ _ | exact hBt _ _ | exact ⟨by omega, by omega⟩) (fun σ248 hB e248 o248 f248 => ?_)
    try have u248_0 : σ248 2 5 = σ 2 5 := by first | exact o248 5 (by decide) | exact congrFun (f248 2 (by decide)) 5
    try have u248_1 : σ248 2 6 = σ 2 6 := by first | exact o248 6 (by decide) | exact congrFun (f248 2 (by decide)) 6
    try have u248_2 : σ248 2 7 = σ 2 7 := by first | exact o248 7 (by decide) | exact congrFun (f248 2 (by decide)) 7
    try have u248_3 : σ248 2 8 = σ 2 8 := by first | exact o248 8 (by decide) | exact congrFun (f248 2 (by decide)) 8
    try have u248_4 : σ248 2 9 = σ 2 9 := by first | exact o248 9 (by decide) | exact congrFun (f248 2 (by decide)) 9
    try have u248_5 : σ248 2 10 = σ 2 10 := by first | exact o248 10 (by decide) | exact congrFun (f248 2 (by decide)) 10
    try have u248_6 : σ248 3 1 = σ 3 1 := by first | exact o248 1 (by decide) | exact congrFun (f248 3 (by decide)) 1
    rw [a2, a1] at hz245
    have hc := pe_ca_cur hA f248 o248 e248
    have xx : pe_ca (pe_eCmd m k) σ248 := by
      by_cases hq : m 1 0 = 0
      · unfold pe_eCmd
        repeat (first | rw [if_pos (by omega)] | rw [if_neg (by omega)])
        exact pe_ca_S1 hc (by omega)
      · unfold pe_eCmd
        repeat (first | rw [if_pos (by omega)] | rw [if_neg (by omega)])
        rw [pe_ba_of (t' := m 8) A2 ⟨hz245.1.1, hz245.1.2.1 (by omega)⟩ hz245.2.1 hz245.2.2] at hc; exact hc
    refine pe_goto (t := 382) d_E_command_251 ?_
    refine pe_rv d_E_command_382 ?_
    first
    | exact ⟨hB, (fun b hb => (f248 b (by simp at hb ⊢; try omega)).trans (rfl)), xx⟩
    | (have xx : pe_ca (pe_eCmd m k) σ := by
         unfold pe_eCmd
         repeat (first | rw [if_pos (by omega)] | rw [if_neg (by omega)])
         exact hA
       exact ⟨hB, (fun b hb => (f248 b (by simp at hb ⊢; try omega)).trans (rfl)), xx⟩)
  refine ⟨fun h1 => ?_, fun h1_13 => ?_⟩
  · show pe_G _ _ _ _ _ _
    refine pe_aload_n d_E_command_274 rfl ?_
    refine pe_aload_n d_E_command_275 rfl ?_
    refine pe_getr f_E_12 d_E_command_276 rfl rfl ?_
    refine pe_aload_n d_E_command_279 rfl ?_
    refine pe_geti f_E_78 d_E_command_280 rfl rfl 7 rfl ?_
    refine pe_v1p d_E_command_283 c_E_93 i_T_lineBeginning s_T_lineBeginning rfl rfl (x_T_lineBeginning hB (by omega) (by omega)) (fun z283 hz283 => ?_)
    refine pe_putiT f_E_78 g_2_7 d_E_command_286 rfl rfl 7 rfl hB (by first | exact hB _ _ | exact hB0 _ _ | exact hBt _ _ | exact ⟨by omega, by omega⟩) (fun σ286 hB e286 o286 f286 => ?_)
    try have u286_0 : σ286 2 5 = σ 2 5 := by first | exact o286 5 (by decide) | exact congrFun (f286 2 (by decide)) 5
    try have u286_1 : σ286 2 6 = σ 2 6 := by first | exact o286 6 (by decide) | exact congrFun (f286 2 (by decide)) 6
    try have u286_2 : σ286 2 7 = σ 2 7 := by first | exact o286 7 (by decide) | exact congrFun (f286 2 (by decide)) 7
    try have u286_3 : σ286 2 8 = σ 2 8 := by first | exact o286 8 (by decide) | exact congrFun (f286 2 (by decide)) 8
    try have u286_4 : σ286 2 9 = σ 2 9 := by first | exact o286 9 (by decide) | exact congrFun (f286 2 (by decide)) 9
    try have u286_5 : σ286 2 10 = σ 2 10 := by first | exact o286 10 (by decide) | exact congrFun (f286 2 (by decide)) 10
    try have u286_6 : σ286 3 1 = σ 3 1 := by first | exact o286 1 (by decide) | exact congrFun (f286 3 (by decide)) 1
    rw [a2] at hz283
    have hc := pe_ca_cur hA f286 o286 e286
    have xx : pe_ca (pe_eCmd m k) σ286 := by
      unfold pe_eCmd
      repeat (first | rw [if_pos (by omega)] | rw [if_neg (by omega)])
      rw [pe_lb_of (t' := m 8) A2 (by omega) hz283.1 hz283.2.1 hz283.2.2] at hc; exact hc
    refine pe_goto (t := 382) d_E_command_289 ?_
    refine pe_rv d_E_command_382 ?_
    first
    | exact ⟨hB, (fun b hb => (f286 b (by simp at hb ⊢; try omega)).trans (rfl)), xx⟩
    | (have xx : pe_ca (pe_eCmd m k) σ := by
         unfold pe_eCmd
         repeat (first | rw [if_pos (by omega)] | rw [if_neg (by omega)])
         exact hA
       exact ⟨hB, (fun b hb => (f286 b (by simp at hb ⊢; try omega)).trans (rfl)), xx⟩)
  refine ⟨fun h1 => ?_, fun h1_14 => ?_⟩
  · show pe_G _ _ _ _ _ _
    refine pe_aload_n d_E_command_292 rfl ?_
    refine pe_aload_n d_E_command_293 rfl ?_
    refine pe_getr f_E_12 d_E_command_294 rfl rfl ?_
    refine pe_aload_n d_E_command_297 rfl ?_
    refine pe_geti f_E_78 d_E_command_298 rfl rfl 7 rfl ?_
    refine pe_v1p d_E_command_301 c_E_96 i_T_lineEnd s_T_lineEnd rfl rfl (x_T_lineEnd hB (by omega) (by omega)) (fun z301 hz301 => ?_)
    refine pe_putiT f_E_78 g_2_7 d_E_command_304 rfl rfl 7 rfl hB (by first | exact hB _ _ | exact hB0 _ _ | exact hBt _ _ | exact ⟨by omega, by omega⟩) (fun σ304 hB e304 o304 f304 => ?_)
    try have u304_0 : σ304 2 5 = σ 2 5 := by first | exact o304 5 (by decide) | exact congrFun (f304 2 (by decide)) 5
    try have u304_1 : σ304 2 6 = σ 2 6 := by first | exact o304 6 (by decide) | exact congrFun (f304 2 (by decide)) 6
    try have u304_2 : σ304 2 7 = σ 2 7 := by first | exact o304 7 (by decide) | exact congrFun (f304 2 (by decide)) 7
    try have u304_3 : σ304 2 8 = σ 2 8 := by first | exact o304 8 (by decide) | exact congrFun (f304 2 (by decide)) 8
    try have u304_4 : σ304 2 9 = σ 2 9 := by first | exact o304 9 (by decide) | exact congrFun (f304 2 (by decide)) 9
    try have u304_5 : σ304 2 10 = σ 2 10 := by first | exact o304 10 (by decide) | exact congrFun (f304 2 (by decide)) 10
    try have u304_6 : σ304 3 1 = σ 3 1 := by first | exact o304 1 (by decide) | exact congrFun (f304 3 (by decide)) 1
    rw [a2, a1] at hz301
    have hc := pe_ca_cur hA f304 o304 e304
    have xx : pe_ca (pe_eCmd m k) σ304 := by
      unfold pe_eCmd
      repeat (first | rw [if_pos (by omega)] | rw [if_neg (by omega)])
      rw [pe_lz_of (t' := m 8) A2 (by omega) hz301.1 hz301.2.1 hz301.2.2] at hc; exact hc
    refine pe_goto (t := 382) d_E_command_307 ?_
    refine pe_rv d_E_command_382 ?_
    first
    | exact ⟨hB, (fun b hb => (f304 b (by simp at hb ⊢; try omega)).trans (rfl)), xx⟩
    | (have xx : pe_ca (pe_eCmd m k) σ := by
         unfold pe_eCmd
         repeat (first | rw [if_pos (by omega)] | rw [if_neg (by omega)])
         exact hA
       exact ⟨hB, (fun b hb => (f304 b (by simp at hb ⊢; try omega)).trans (rfl)), xx⟩)
  refine ⟨fun h1 => ?_, fun h1_15 => ?_⟩
  · show pe_G _ _ _ _ _ _
    refine pe_aload_n d_E_command_212 rfl ?_
    refine pe_aload_n d_E_command_213 rfl ?_
    refine pe_geti f_E_78 d_E_command_214 rfl rfl 7 rfl ?_
    refine pe_aload_n d_E_command_217 rfl ?_
    refine pe_getr f_E_12 d_E_command_218 rfl rfl ?_
    refine pe_aload_n d_E_command_221 rfl ?_
    refine pe_geti f_E_78 d_E_command_222 rfl rfl 7 rfl ?_
    refine pe_iconst d_E_command_225 ?_
    refine pe_iadd d_E_command_226 ?_
    refine pe_v1p d_E_command_227 c_E_81 i_T_beginningFrom s_T_beginningFrom rfl rfl (x_T_beginningFrom hB (by omega) (by omega) hv) (fun z227 hz227 => ?_)
    refine pe_v2v d_E_command_230 c_E_89 i_E_removeBetween s_E_removeBetween rfl rfl (x_E_removeBetween hB hA hw hk (by omega)) (fun σ230 hz230 => ?_)
    obtain ⟨hB, f230, x230⟩ := hz230
    try have u230_0 : σ230 2 5 = σ 2 5 := by first | exact o230 5 (by decide) | exact congrFun (f230 2 (by decide)) 5
    try have u230_1 : σ230 2 6 = σ 2 6 := by first | exact o230 6 (by decide) | exact congrFun (f230 2 (by decide)) 6
    try have u230_2 : σ230 2 7 = σ 2 7 := by first | exact o230 7 (by decide) | exact congrFun (f230 2 (by decide)) 7
    try have u230_3 : σ230 2 8 = σ 2 8 := by first | exact o230 8 (by decide) | exact congrFun (f230 2 (by decide)) 8
    try have u230_4 : σ230 2 9 = σ 2 9 := by first | exact o230 9 (by decide) | exact congrFun (f230 2 (by decide)) 9
    try have u230_5 : σ230 2 10 = σ 2 10 := by first | exact o230 10 (by decide) | exact congrFun (f230 2 (by decide)) 10
    try have u230_6 : σ230 3 1 = σ 3 1 := by first | exact o230 1 (by decide) | exact congrFun (f230 3 (by decide)) 1
    rw [a2] at x230 hz227
    rw [a1] at hz227
    have xx : pe_ca (pe_eCmd m k) σ230 := by
      by_cases hq : m 1 0 = m 0 0
      · unfold pe_eCmd
        repeat (first | rw [if_pos (by omega)] | rw [if_neg (by omega)])
        have e : pe_eDel m (m 1 0) z227 = m := by unfold pe_eDel; rw [if_pos (by omega)]
        rw [e] at x230; exact x230
      · unfold pe_eCmd
        repeat (first | rw [if_pos (by omega)] | rw [if_neg (by omega)])
        rw [pe_bf_of (t' := m 8) A2 (by omega) (by omega) hz227.2.1 hz227.2.2] at x230; exact x230
    refine pe_goto (t := 382) d_E_command_233 ?_
    refine pe_rv d_E_command_382 ?_
    first
    | exact ⟨hB, (fun b hb => (f230 b (by simp at hb ⊢; try omega)).trans (rfl)), xx⟩
    | (have xx : pe_ca (pe_eCmd m k) σ := by
         unfold pe_eCmd
         repeat (first | rw [if_pos (by omega)] | rw [if_neg (by omega)])
         exact hA
       exact ⟨hB, (fun b hb => (f230 b (by simp at hb ⊢; try omega)).trans (rfl)), xx⟩)
  refine ⟨fun h1 => ?_, fun h1_16 => ?_⟩
  · show pe_G _ _ _ _ _ _
    refine pe_aload_n d_E_command_366 rfl ?_
    refine pe_iconst d_E_command_367 ?_
    refine pe_putzT f_E_55 g_2_10 d_E_command_368 rfl rfl (by first | exact Or.inl rfl | exact Or.inr rfl | omega) 10 rfl hB (fun σ368 hB e368 o368 f368 => ?_)
    try have u368_0 : σ368 2 5 = σ 2 5 := by first | exact o368 5 (by decide) | exact congrFun (f368 2 (by decide)) 5
    try have u368_1 : σ368 2 6 = σ 2 6 := by first | exact o368 6 (by decide) | exact congrFun (f368 2 (by decide)) 6
    try have u368_2 : σ368 2 7 = σ 2 7 := by first | exact o368 7 (by decide) | exact congrFun (f368 2 (by decide)) 7
    try have u368_3 : σ368 2 8 = σ 2 8 := by first | exact o368 8 (by decide) | exact congrFun (f368 2 (by decide)) 8
    try have u368_4 : σ368 2 9 = σ 2 9 := by first | exact o368 9 (by decide) | exact congrFun (f368 2 (by decide)) 9
    try have u368_5 : σ368 2 10 = σ 2 10 := by first | exact o368 10 (by decide) | exact congrFun (f368 2 (by decide)) 10
    try have u368_6 : σ368 3 1 = σ 3 1 := by first | exact o368 1 (by decide) | exact congrFun (f368 3 (by decide)) 1
    have xx : pe_ca (pe_eCmd m k) σ368 := by
      unfold pe_eCmd
      repeat (first | rw [if_pos (by omega)] | rw [if_neg (by omega)])
      exact pe_ca_pa hA f368 o368 e368
    refine pe_goto (t := 382) d_E_command_371 ?_
    refine pe_rv d_E_command_382 ?_
    first
    | exact ⟨hB, (fun b hb => (f368 b (by simp at hb ⊢; try omega)).trans (rfl)), xx⟩
    | (have xx : pe_ca (pe_eCmd m k) σ := by
         unfold pe_eCmd
         repeat (first | rw [if_pos (by omega)] | rw [if_neg (by omega)])
         exact hA
       exact ⟨hB, (fun b hb => (f368 b (by simp at hb ⊢; try omega)).trans (rfl)), xx⟩)
  refine ⟨fun h1 => ?_, fun h1_17 => ?_⟩
  · show pe_G _ _ _ _ _ _
    refine pe_aload_n d_E_command_374 rfl ?_
    refine pe_iconst d_E_command_375 ?_
    refine pe_putzT f_E_55 g_2_10 d_E_command_376 rfl rfl (by first | exact Or.inl rfl | exact Or.inr rfl | omega) 10 rfl hB (fun σ376 hB e376 o376 f376 => ?_)
    try have u376_0 : σ376 2 5 = σ 2 5 := by first | exact o376 5 (by decide) | exact congrFun (f376 2 (by decide)) 5
    try have u376_1 : σ376 2 6 = σ 2 6 := by first | exact o376 6 (by decide) | exact congrFun (f376 2 (by decide)) 6
    try have u376_2 : σ376 2 7 = σ 2 7 := by first | exact o376 7 (by decide) | exact congrFun (f376 2 (by decide)) 7
    try have u376_3 : σ376 2 8 = σ 2 8 := by first | exact o376 8 (by decide) | exact congrFun (f376 2 (by decide)) 8
    try have u376_4 : σ376 2 9 = σ 2 9 := by first | exact o376 9 (by decide) | exact congrFun (f376 2 (by decide)) 9
    try have u376_5 : σ376 2 10 = σ 2 10 := by first | exact o376 10 (by decide) | exact congrFun (f376 2 (by decide)) 10
    try have u376_6 : σ376 3 1 = σ 3 1 := by first | exact o376 1 (by decide) | exact congrFun (f376 3 (by decide)) 1
    have xx : pe_ca (pe_eCmd m k) σ376 := by
      unfold pe_eCmd
      repeat (first | rw [if_pos (by omega)] | rw [if_neg (by omega)])
      exact pe_ca_pa hA f376 o376 e376
    refine pe_goto (t := 382) d_E_command_379 ?_
    refine pe_rv d_E_command_382 ?_
    first
    | exact ⟨hB, (fun b hb => (f376 b (by simp at hb ⊢; try omega)).trans (rfl)), xx⟩
    | (have xx : pe_ca (pe_eCmd m k) σ := by
         unfold pe_eCmd
         repeat (first | rw [if_pos (by omega)] | rw [if_neg (by omega)])
         exact hA
       exact ⟨hB, (fun b hb => (f376 b (by simp at hb ⊢; try omega)).trans (rfl)), xx⟩)
  show pe_G _ _ _ _ _ _
  refine pe_rv d_E_command_382 ?_
  first
  | exact ⟨hB, (fun b hb => rfl), xx⟩
  | (have xx : pe_ca (pe_eCmd m k) σ := by
       unfold pe_eCmd
       repeat (first | rw [if_pos (by omega)] | rw [if_neg (by omega)])
       exact hA
     exact ⟨hB, (fun b hb => rfl), xx⟩)
