/-! p1: the class's press and keyboard, exact -/
set_option maxHeartbeats 2000000 in
theorem x_E_press {m σ : pe_H} {k : Int} (hB : pe_B σ) (hA : pe_ca m σ) (hw : pe_wf m) (hk : m 5 0 ≤ 11) (hg : pe_bg (m 8) (m 0 0) (m 1 0)) (hkr : pe_R k) : pe_M m_E_press [pe_r 2, pe_i k] σ (pe_qv (fun σ' => pe_B σ' ∧ (∀ b, b ∉ [2, 3, 4, 5, 6, 7, 8, 9, 10, 12, 13, 14, 15, 16] → σ' b = σ b) ∧ pe_ca (pe_ePr m k) σ')) := by
  refine pe_in0 (lv := [some (pe_r 2), some (pe_i k)]) ?_
  have hB0 := hB
  obtain ⟨⟨⟨a1, a2, a3, a4, a5⟩, ⟨a6, a7⟩, a8, a9⟩, A2, A3, A4⟩ := id hA
  obtain ⟨⟨w1, w2, w3, w4, w5, w6, w7, w8⟩, W2, W3⟩ := id hw
  have ag : ∀ j, 0 ≤ j → j < σ 3 1 → σ 4 j = m 8 j := fun j h0 h1 => A2 j h0 (by omega)
  have hv : ∀ j, 0 ≤ j → j < σ 3 1 → σ 4 j = 9 ∨ σ 4 j = 10 ∨ (32 ≤ σ 4 j ∧ σ 4 j ≤ 65535) := fun j h0 h1 => by rw [ag j h0 h1]; exact W2.1 j h0 (by omega)
  refine pe_iload_n d_E_press_0 rfl ?_
  refine pe_ldc q_E_53 d_E_press_1 (z := 65536) rfl ?_
  refine pe_icmp_eq (t := 12) d_E_press_3 (by first | exact hB _ _ | exact hB0 _ _ | exact hBt _ _ | exact ⟨by omega, by omega⟩) (by first | exact hB _ _ | exact hB0 _ _ | exact hBt _ _ | exact ⟨by omega, by omega⟩) (fun h3 => ?_) (fun h3 => ?_)
  · skip
    refine pe_aload_n d_E_press_12 rfl ?_
    refine pe_geti f_E_55 d_E_press_13 rfl rfl 10 rfl ?_
    refine pe_if_ne (t := 34) d_E_press_16 (by first | exact hB _ _ | exact hB0 _ _ | exact hBt _ _ | exact ⟨by omega, by omega⟩) (fun h16 => ?_) (fun h16 => ?_)
    · skip
      refine pe_rv d_E_press_34 ?_
      first
      | (exfalso; omega)
      | exact ⟨hB, (fun b hb => rfl), by
          unfold pe_ePr
          rw [if_pos (by omega), if_neg (by omega)]; exact hA⟩
      | exact ⟨hB, (fun b hb => rfl), by
          unfold pe_ePr
          rw [if_pos (by omega), if_pos (by omega)]
          first | rw [if_pos (by omega)] | rw [if_neg (by omega)]
          exact x31⟩
    · skip
      refine pe_aload_n d_E_press_19 rfl ?_
      refine pe_iload_n d_E_press_20 rfl ?_
      refine pe_ldc q_E_53 d_E_press_21 (z := 65536) rfl ?_
      refine pe_icmp_ne (t := 30) d_E_press_23 (by first | exact hB _ _ | exact hB0 _ _ | exact hBt _ _ | exact ⟨by omega, by omega⟩) (by first | exact hB _ _ | exact hB0 _ _ | exact hBt _ _ | exact ⟨by omega, by omega⟩) (fun h23 => ?_) (fun h23 => ?_)
      · skip
        refine pe_iconst d_E_press_30 ?_
        refine pe_v1v d_E_press_31 c_E_58 i_E_moveByRow s_E_moveByRow rfl rfl (x_E_moveByRow hB hA hw hk hg (by omega)) (fun σ31 hz31 => ?_)
        obtain ⟨hB, f31, x31⟩ := hz31
        try have u31_0 : σ31 2 10 = σ 2 10 := by first | exact o31 10 (by decide) | exact congrFun (f31 2 (by decide)) 10
        refine pe_rv d_E_press_34 ?_
        first
        | (exfalso; omega)
        | exact ⟨hB, (fun b hb => (f31 b (by simp at hb ⊢; try omega)).trans (rfl)), by
            unfold pe_ePr
            rw [if_pos (by omega), if_neg (by omega)]; exact hA⟩
        | exact ⟨hB, (fun b hb => (f31 b (by simp at hb ⊢; try omega)).trans (rfl)), by
            unfold pe_ePr
            rw [if_pos (by omega), if_pos (by omega)]
            first | rw [if_pos (by omega)] | rw [if_neg (by omega)]
            exact x31⟩
      · skip
        refine pe_iconst d_E_press_26 ?_
        refine pe_goto (t := 31) d_E_press_27 ?_
        refine pe_v1v d_E_press_31 c_E_58 i_E_moveByRow s_E_moveByRow rfl rfl (x_E_moveByRow hB hA hw hk hg (by omega)) (fun σ31 hz31 => ?_)
        obtain ⟨hB, f31, x31⟩ := hz31
        try have u31_0 : σ31 2 10 = σ 2 10 := by first | exact o31 10 (by decide) | exact congrFun (f31 2 (by decide)) 10
        refine pe_rv d_E_press_34 ?_
        first
        | (exfalso; omega)
        | exact ⟨hB, (fun b hb => (f31 b (by simp at hb ⊢; try omega)).trans (rfl)), by
            unfold pe_ePr
            rw [if_pos (by omega), if_neg (by omega)]; exact hA⟩
        | exact ⟨hB, (fun b hb => (f31 b (by simp at hb ⊢; try omega)).trans (rfl)), by
            unfold pe_ePr
            rw [if_pos (by omega), if_pos (by omega)]
            first | rw [if_pos (by omega)] | rw [if_neg (by omega)]
            exact x31⟩
  · skip
    refine pe_iload_n d_E_press_6 rfl ?_
    refine pe_ldc q_E_54 d_E_press_7 (z := 65537) rfl ?_
    refine pe_icmp_ne (t := 35) d_E_press_9 (by first | exact hB _ _ | exact hB0 _ _ | exact hBt _ _ | exact ⟨by omega, by omega⟩) (by first | exact hB _ _ | exact hB0 _ _ | exact hBt _ _ | exact ⟨by omega, by omega⟩) (fun h9 => ?_) (fun h9 => ?_)
    · skip
      refine pe_aload_n d_E_press_35 rfl ?_
      refine pe_geti f_E_55 d_E_press_36 rfl rfl 10 rfl ?_
      refine pe_if_eq (t := 52) d_E_press_39 (by first | exact hB _ _ | exact hB0 _ _ | exact hBt _ _ | exact ⟨by omega, by omega⟩) (fun h39 => ?_) (fun h39 => ?_)
      · skip
        refine pe_iload_n d_E_press_52 rfl ?_
        refine pe_s1p d_E_press_53 c_E_66 z_E_worksOtherwise (x_E_worksOtherwise (by first | exact hB _ _ | exact hB0 _ _ | exact hBt _ _ | exact ⟨by omega, by omega⟩)) (fun z53 hz53 => ?_)
        refine pe_if_ne (t := 60) d_E_press_56 (by first | exact hB _ _ | exact hB0 _ _ | exact hBt _ _ | exact ⟨by omega, by omega⟩) (fun h56 => ?_) (fun h56 => ?_)
        · skip
          have hwk : pe_wk m k := by unfold pe_wk; omega
          refine pe_aload_n d_E_press_60 rfl ?_
          refine pe_iconst d_E_press_61 ?_
          refine pe_putiT f_E_43 g_2_9 d_E_press_62 rfl rfl 9 rfl hB (by first | exact hB _ _ | exact hB0 _ _ | exact hBt _ _ | exact ⟨by omega, by omega⟩) (fun σ62 hB e62 o62 f62 => ?_)
          try have u62_0 : σ62 2 10 = σ 2 10 := by first | exact o62 10 (by decide) | exact congrFun (f62 2 (by decide)) 10
          have hc := pe_ca_gl hA f62 o62 e62
          have hw1 : pe_wf (pe_eS m 4 (-1)) := pe_wf_gl hw (by omega)
          refine pe_iload_n d_E_press_65 rfl ?_
          refine pe_s1p d_E_press_66 c_E_69 z_E_isCharacter (x_E_isCharacter (by first | exact hB _ _ | exact hB0 _ _ | exact hBt _ _ | exact ⟨by omega, by omega⟩)) (fun z66 hz66 => ?_)
          refine pe_if_eq (t := 80) d_E_press_69 (by first | exact hB _ _ | exact hB0 _ _ | exact hBt _ _ | exact ⟨by omega, by omega⟩) (fun h69 => ?_) (fun h69 => ?_)
          · skip
            refine pe_aload_n d_E_press_80 rfl ?_
            refine pe_iload_n d_E_press_81 rfl ?_
            refine pe_v1v d_E_press_82 c_E_75 i_E_command s_E_command rfl rfl (x_E_command hB hc hw1 hk (by first | exact hB _ _ | exact hB0 _ _ | exact hBt _ _ | exact ⟨by omega, by omega⟩)) (fun σ82 hz82 => ?_)
            obtain ⟨hB, f82, x82⟩ := hz82
            try have u82_0 : σ82 2 10 = σ62 2 10 := by first | exact o82 10 (by decide) | exact congrFun (f82 2 (by decide)) 10
            have xx : pe_ca (pe_eK (pe_eS m 4 (-1)) k) σ82 := by
              unfold pe_eK
              first | rw [if_pos (by omega)] | rw [if_neg (by omega)]
              exact x82
            have hwk1 := pe_wf_K (k := k) hw1
            generalize hM : pe_eK (pe_eS m 4 (-1)) k = M at xx hwk1
            obtain ⟨⟨⟨b1, b2, b3, b4, b5⟩, b6, b8, b9⟩, B2, B3, B4⟩ := id xx
            obtain ⟨⟨p1, p2, p3⟩, P2, P3⟩ := id hwk1
            refine pe_aload_n d_E_press_85 rfl ?_
            refine pe_aload_n d_E_press_86 rfl ?_
            refine pe_getr f_E_12 d_E_press_87 rfl rfl ?_
            refine pe_aload_n d_E_press_90 rfl ?_
            refine pe_geti f_E_78 d_E_press_91 rfl rfl 7 rfl ?_
            refine pe_v1p d_E_press_94 c_E_81 i_T_beginningFrom s_T_beginningFrom rfl rfl (x_T_beginningFrom hB (by omega) (by omega) (fun j h0 h1 => by rw [B2 j h0 (by omega)]; exact P2.1 j h0 (by omega))) (fun z94 hz94 => ?_)
            refine pe_putiT f_E_78 g_2_7 d_E_press_97 rfl rfl 7 rfl hB (by first | exact hB _ _ | exact hB0 _ _ | exact hBt _ _ | exact ⟨by omega, by omega⟩) (fun σ97 hB e97 o97 f97 => ?_)
            try have u97_0 : σ97 2 10 = σ82 2 10 := by first | exact o97 10 (by decide) | exact congrFun (f97 2 (by decide)) 10
            have xc := pe_ca_cur xx f97 o97 e97
            rw [b1, b2] at hz94
            rw [pe_bf_of (t' := M 8) B2 (by omega) (by omega) hz94.2.1 hz94.2.2] at xc
            refine pe_rv d_E_press_100 ?_
            exact ⟨hB, (fun b hb => (f97 b (by simp at hb ⊢; try omega)).trans ((f82 b (by simp at hb ⊢; try omega)).trans ((f62 b (by simp at hb ⊢; try omega)).trans (rfl)))), by
              unfold pe_ePr
              rw [if_neg (by omega), if_pos hwk, hM]; exact xc⟩
          · skip
            refine pe_aload_n d_E_press_72 rfl ?_
            refine pe_iload_n d_E_press_73 rfl ?_
            refine pe_v1v d_E_press_74 c_E_72 i_E_insertOne s_E_insertOne rfl rfl (x_E_insertOne hB hc hw1 hk (by first | exact hB _ _ | exact hB0 _ _ | exact hBt _ _ | exact ⟨by omega, by omega⟩)) (fun σ74 hz74 => ?_)
            obtain ⟨hB, f74, x74⟩ := hz74
            try have u74_0 : σ74 2 10 = σ62 2 10 := by first | exact o74 10 (by decide) | exact congrFun (f74 2 (by decide)) 10
            have xx : pe_ca (pe_eK (pe_eS m 4 (-1)) k) σ74 := by
              unfold pe_eK
              first | rw [if_pos (by omega)] | rw [if_neg (by omega)]
              exact x74
            refine pe_goto (t := 85) d_E_press_77 ?_
            have hwk1 := pe_wf_K (k := k) hw1
            generalize hM : pe_eK (pe_eS m 4 (-1)) k = M at xx hwk1
            obtain ⟨⟨⟨b1, b2, b3, b4, b5⟩, b6, b8, b9⟩, B2, B3, B4⟩ := id xx
            obtain ⟨⟨p1, p2, p3⟩, P2, P3⟩ := id hwk1
            refine pe_aload_n d_E_press_85 rfl ?_
            refine pe_aload_n d_E_press_86 rfl ?_
            refine pe_getr f_E_12 d_E_press_87 rfl rfl ?_
            refine pe_aload_n d_E_press_90 rfl ?_
            refine pe_geti f_E_78 d_E_press_91 rfl rfl 7 rfl ?_
            refine pe_v1p d_E_press_94 c_E_81 i_T_beginningFrom s_T_beginningFrom rfl rfl (x_T_beginningFrom hB (by omega) (by omega) (fun j h0 h1 => by rw [B2 j h0 (by omega)]; exact P2.1 j h0 (by omega))) (fun z94 hz94 => ?_)
            refine pe_putiT f_E_78 g_2_7 d_E_press_97 rfl rfl 7 rfl hB (by first | exact hB _ _ | exact hB0 _ _ | exact hBt _ _ | exact ⟨by omega, by omega⟩) (fun σ97 hB e97 o97 f97 => ?_)
            try have u97_0 : σ97 2 10 = σ74 2 10 := by first | exact o97 10 (by decide) | exact congrFun (f97 2 (by decide)) 10
            have xc := pe_ca_cur xx f97 o97 e97
            rw [b1, b2] at hz94
            rw [pe_bf_of (t' := M 8) B2 (by omega) (by omega) hz94.2.1 hz94.2.2] at xc
            refine pe_rv d_E_press_100 ?_
            exact ⟨hB, (fun b hb => (f97 b (by simp at hb ⊢; try omega)).trans ((f74 b (by simp at hb ⊢; try omega)).trans ((f62 b (by simp at hb ⊢; try omega)).trans (rfl)))), by
              unfold pe_ePr
              rw [if_neg (by omega), if_pos hwk, hM]; exact xc⟩
        · skip
          refine pe_rv d_E_press_59 ?_
          have hwk : ¬ pe_wk m k := by unfold pe_wk; omega
          exact ⟨hB, (fun b hb => rfl), by
            unfold pe_ePr
            rw [if_neg (by omega), if_neg hwk]; exact hA⟩
      · skip
        refine pe_iload_n d_E_press_42 rfl ?_
        refine pe_s1p d_E_press_43 c_E_62 z_E_worksWhilePasting (x_E_worksWhilePasting (by first | exact hB _ _ | exact hB0 _ _ | exact hBt _ _ | exact ⟨by omega, by omega⟩)) (fun z43 hz43 => ?_)
        refine pe_if_ne (t := 60) d_E_press_46 (by first | exact hB _ _ | exact hB0 _ _ | exact hBt _ _ | exact ⟨by omega, by omega⟩) (fun h46 => ?_) (fun h46 => ?_)
        · skip
          have hwk : pe_wk m k := by unfold pe_wk; omega
          refine pe_aload_n d_E_press_60 rfl ?_
          refine pe_iconst d_E_press_61 ?_
          refine pe_putiT f_E_43 g_2_9 d_E_press_62 rfl rfl 9 rfl hB (by first | exact hB _ _ | exact hB0 _ _ | exact hBt _ _ | exact ⟨by omega, by omega⟩) (fun σ62 hB e62 o62 f62 => ?_)
          try have u62_0 : σ62 2 10 = σ 2 10 := by first | exact o62 10 (by decide) | exact congrFun (f62 2 (by decide)) 10
          have hc := pe_ca_gl hA f62 o62 e62
          have hw1 : pe_wf (pe_eS m 4 (-1)) := pe_wf_gl hw (by omega)
          refine pe_iload_n d_E_press_65 rfl ?_
          refine pe_s1p d_E_press_66 c_E_69 z_E_isCharacter (x_E_isCharacter (by first | exact hB _ _ | exact hB0 _ _ | exact hBt _ _ | exact ⟨by omega, by omega⟩)) (fun z66 hz66 => ?_)
          refine pe_if_eq (t := 80) d_E_press_69 (by first | exact hB _ _ | exact hB0 _ _ | exact hBt _ _ | exact ⟨by omega, by omega⟩) (fun h69 => ?_) (fun h69 => ?_)
          · skip
            refine pe_aload_n d_E_press_80 rfl ?_
            refine pe_iload_n d_E_press_81 rfl ?_
            refine pe_v1v d_E_press_82 c_E_75 i_E_command s_E_command rfl rfl (x_E_command hB hc hw1 hk (by first | exact hB _ _ | exact hB0 _ _ | exact hBt _ _ | exact ⟨by omega, by omega⟩)) (fun σ82 hz82 => ?_)
            obtain ⟨hB, f82, x82⟩ := hz82
            try have u82_0 : σ82 2 10 = σ62 2 10 := by first | exact o82 10 (by decide) | exact congrFun (f82 2 (by decide)) 10
            have xx : pe_ca (pe_eK (pe_eS m 4 (-1)) k) σ82 := by
              unfold pe_eK
              first | rw [if_pos (by omega)] | rw [if_neg (by omega)]
              exact x82
            have hwk1 := pe_wf_K (k := k) hw1
            generalize hM : pe_eK (pe_eS m 4 (-1)) k = M at xx hwk1
            obtain ⟨⟨⟨b1, b2, b3, b4, b5⟩, b6, b8, b9⟩, B2, B3, B4⟩ := id xx
            obtain ⟨⟨p1, p2, p3⟩, P2, P3⟩ := id hwk1
            refine pe_aload_n d_E_press_85 rfl ?_
            refine pe_aload_n d_E_press_86 rfl ?_
            refine pe_getr f_E_12 d_E_press_87 rfl rfl ?_
            refine pe_aload_n d_E_press_90 rfl ?_
            refine pe_geti f_E_78 d_E_press_91 rfl rfl 7 rfl ?_
            refine pe_v1p d_E_press_94 c_E_81 i_T_beginningFrom s_T_beginningFrom rfl rfl (x_T_beginningFrom hB (by omega) (by omega) (fun j h0 h1 => by rw [B2 j h0 (by omega)]; exact P2.1 j h0 (by omega))) (fun z94 hz94 => ?_)
            refine pe_putiT f_E_78 g_2_7 d_E_press_97 rfl rfl 7 rfl hB (by first | exact hB _ _ | exact hB0 _ _ | exact hBt _ _ | exact ⟨by omega, by omega⟩) (fun σ97 hB e97 o97 f97 => ?_)
            try have u97_0 : σ97 2 10 = σ82 2 10 := by first | exact o97 10 (by decide) | exact congrFun (f97 2 (by decide)) 10
            have xc := pe_ca_cur xx f97 o97 e97
            rw [b1, b2] at hz94
            rw [pe_bf_of (t' := M 8) B2 (by omega) (by omega) hz94.2.1 hz94.2.2] at xc
            refine pe_rv d_E_press_100 ?_
            exact ⟨hB, (fun b hb => (f97 b (by simp at hb ⊢; try omega)).trans ((f82 b (by simp at hb ⊢; try omega)).trans ((f62 b (by simp at hb ⊢; try omega)).trans (rfl)))), by
              unfold pe_ePr
              rw [if_neg (by omega), if_pos hwk, hM]; exact xc⟩
          · skip
            refine pe_aload_n d_E_press_72 rfl ?_
            refine pe_iload_n d_E_press_73 rfl ?_
            refine pe_v1v d_E_press_74 c_E_72 i_E_insertOne s_E_insertOne rfl rfl (x_E_insertOne hB hc hw1 hk (by first | exact hB _ _ | exact hB0 _ _ | exact hBt _ _ | exact ⟨by omega, by omega⟩)) (fun σ74 hz74 => ?_)
            obtain ⟨hB, f74, x74⟩ := hz74
            try have u74_0 : σ74 2 10 = σ62 2 10 := by first | exact o74 10 (by decide) | exact congrFun (f74 2 (by decide)) 10
            have xx : pe_ca (pe_eK (pe_eS m 4 (-1)) k) σ74 := by
              unfold pe_eK
              first | rw [if_pos (by omega)] | rw [if_neg (by omega)]
              exact x74
            refine pe_goto (t := 85) d_E_press_77 ?_
            have hwk1 := pe_wf_K (k := k) hw1
            generalize hM : pe_eK (pe_eS m 4 (-1)) k = M at xx hwk1
            obtain ⟨⟨⟨b1, b2, b3, b4, b5⟩, b6, b8, b9⟩, B2, B3, B4⟩ := id xx
            obtain ⟨⟨p1, p2, p3⟩, P2, P3⟩ := id hwk1
            refine pe_aload_n d_E_press_85 rfl ?_
            refine pe_aload_n d_E_press_86 rfl ?_
            refine pe_getr f_E_12 d_E_press_87 rfl rfl ?_
            refine pe_aload_n d_E_press_90 rfl ?_
            refine pe_geti f_E_78 d_E_press_91 rfl rfl 7 rfl ?_
            refine pe_v1p d_E_press_94 c_E_81 i_T_beginningFrom s_T_beginningFrom rfl rfl (x_T_beginningFrom hB (by omega) (by omega) (fun j h0 h1 => by rw [B2 j h0 (by omega)]; exact P2.1 j h0 (by omega))) (fun z94 hz94 => ?_)
            refine pe_putiT f_E_78 g_2_7 d_E_press_97 rfl rfl 7 rfl hB (by first | exact hB _ _ | exact hB0 _ _ | exact hBt _ _ | exact ⟨by omega, by omega⟩) (fun σ97 hB e97 o97 f97 => ?_)
            try have u97_0 : σ97 2 10 = σ74 2 10 := by first | exact o97 10 (by decide) | exact congrFun (f97 2 (by decide)) 10
            have xc := pe_ca_cur xx f97 o97 e97
            rw [b1, b2] at hz94
            rw [pe_bf_of (t' := M 8) B2 (by omega) (by omega) hz94.2.1 hz94.2.2] at xc
            refine pe_rv d_E_press_100 ?_
            exact ⟨hB, (fun b hb => (f97 b (by simp at hb ⊢; try omega)).trans ((f74 b (by simp at hb ⊢; try omega)).trans ((f62 b (by simp at hb ⊢; try omega)).trans (rfl)))), by
              unfold pe_ePr
              rw [if_neg (by omega), if_pos hwk, hM]; exact xc⟩
        · skip
          refine pe_goto (t := 59) d_E_press_49 ?_
          refine pe_rv d_E_press_59 ?_
          have hwk : ¬ pe_wk m k := by unfold pe_wk; omega
          exact ⟨hB, (fun b hb => rfl), by
            unfold pe_ePr
            rw [if_neg (by omega), if_neg hwk]; exact hA⟩
    · skip
      refine pe_aload_n d_E_press_12 rfl ?_
      refine pe_geti f_E_55 d_E_press_13 rfl rfl 10 rfl ?_
      refine pe_if_ne (t := 34) d_E_press_16 (by first | exact hB _ _ | exact hB0 _ _ | exact hBt _ _ | exact ⟨by omega, by omega⟩) (fun h16 => ?_) (fun h16 => ?_)
      · skip
        refine pe_rv d_E_press_34 ?_
        first
        | (exfalso; omega)
        | exact ⟨hB, (fun b hb => rfl), by
            unfold pe_ePr
            rw [if_pos (by omega), if_neg (by omega)]; exact hA⟩
        | exact ⟨hB, (fun b hb => rfl), by
            unfold pe_ePr
            rw [if_pos (by omega), if_pos (by omega)]
            first | rw [if_pos (by omega)] | rw [if_neg (by omega)]
            exact x31⟩
      · skip
        refine pe_aload_n d_E_press_19 rfl ?_
        refine pe_iload_n d_E_press_20 rfl ?_
        refine pe_ldc q_E_53 d_E_press_21 (z := 65536) rfl ?_
        refine pe_icmp_ne (t := 30) d_E_press_23 (by first | exact hB _ _ | exact hB0 _ _ | exact hBt _ _ | exact ⟨by omega, by omega⟩) (by first | exact hB _ _ | exact hB0 _ _ | exact hBt _ _ | exact ⟨by omega, by omega⟩) (fun h23 => ?_) (fun h23 => ?_)
        · skip
          refine pe_iconst d_E_press_30 ?_
          refine pe_v1v d_E_press_31 c_E_58 i_E_moveByRow s_E_moveByRow rfl rfl (x_E_moveByRow hB hA hw hk hg (by omega)) (fun σ31 hz31 => ?_)
          obtain ⟨hB, f31, x31⟩ := hz31
          try have u31_0 : σ31 2 10 = σ 2 10 := by first | exact o31 10 (by decide) | exact congrFun (f31 2 (by decide)) 10
          refine pe_rv d_E_press_34 ?_
          first
          | (exfalso; omega)
          | exact ⟨hB, (fun b hb => (f31 b (by simp at hb ⊢; try omega)).trans (rfl)), by
              unfold pe_ePr
              rw [if_pos (by omega), if_neg (by omega)]; exact hA⟩
          | exact ⟨hB, (fun b hb => (f31 b (by simp at hb ⊢; try omega)).trans (rfl)), by
              unfold pe_ePr
              rw [if_pos (by omega), if_pos (by omega)]
              first | rw [if_pos (by omega)] | rw [if_neg (by omega)]
              exact x31⟩
        · skip
          refine pe_iconst d_E_press_26 ?_
          refine pe_goto (t := 31) d_E_press_27 ?_
          refine pe_v1v d_E_press_31 c_E_58 i_E_moveByRow s_E_moveByRow rfl rfl (x_E_moveByRow hB hA hw hk hg (by omega)) (fun σ31 hz31 => ?_)
          obtain ⟨hB, f31, x31⟩ := hz31
          try have u31_0 : σ31 2 10 = σ 2 10 := by first | exact o31 10 (by decide) | exact congrFun (f31 2 (by decide)) 10
          refine pe_rv d_E_press_34 ?_
          first
          | (exfalso; omega)
          | exact ⟨hB, (fun b hb => (f31 b (by simp at hb ⊢; try omega)).trans (rfl)), by
              unfold pe_ePr
              rw [if_pos (by omega), if_neg (by omega)]; exact hA⟩
          | exact ⟨hB, (fun b hb => (f31 b (by simp at hb ⊢; try omega)).trans (rfl)), by
              unfold pe_ePr
              rw [if_pos (by omega), if_pos (by omega)]
              first | rw [if_pos (by omega)] | rw [if_neg (by omega)]
              exact x31⟩
/-- the keyboard of the model: 0 mode, 1 number, 2 code, 3 bytes due, 4 least, 5 most, 6 previous -/
def pe_kl (s : Int → Int) (t : Int) : Int := (if s 0 = 1 ∧ t ≠ 91 then 27 else if s 0 = 3 ∧ (t < s 4 ∨ s 5 < t) then 65533 else -1)
def pe_kx (s : Int → Int) (t : Int) : Int → Int := fun j => if j = 0 then (if (s 0 = 1 ∧ t ≠ 91) ∨ (s 0 = 2 ∧ ¬ ((48 ≤ t ∧ t ≤ 57) ∨ (64 ≤ t ∧ t ≤ 126))) ∨ (s 0 = 3 ∧ (t < s 4 ∨ s 5 < t)) then 0 else s 0) else s j
def pe_kk (s : Int → Int) (t : Int) : Int := (if s 0 = 1 then -1 else if s 0 = 2 then (if (48 ≤ t ∧ t ≤ 57) then -1 else if t = 65 then 65536 else if t = 66 then 65537 else if t = 67 then 65538 else if t = 68 then 65539 else if t = 72 then 65540 else if t = 70 then 65541 else if t = 126 then (if s 1 = 3 then 65542 else if s 1 = 200 then 65543 else if s 1 = 201 then 65544 else -1) else -1) else if s 0 = 3 then (if 1 < s 3 ∨ s 2 * 64 + t % 64 < 160 then -1 else s 2 * 64 + t % 64) else (if t = 27 ∨ (194 ≤ t ∧ t ≤ 239) then -1 else if 128 ≤ t then 65533 else if t = 10 ∧ s 6 = 13 then -1 else t))
def pe_ky (s : Int → Int) (t : Int) : Int → Int := fun j => if j = 0 then (if s 0 = 1 then 2 else if s 0 = 2 then (if (48 ≤ t ∧ t ≤ 57) then 2 else 0) else if s 0 = 3 then (if 1 < s 3 then 3 else 0) else if t = 27 then 1 else if (194 ≤ t ∧ t ≤ 239) then 3 else 0) else if j = 1 then (if s 0 = 1 then 0 else if s 0 = 2 ∧ (48 ≤ t ∧ t ≤ 57) then (if 9999 ≤ 10 * s 1 + t - 48 then 9999 else 10 * s 1 + t - 48) else s 1) else if j = 2 then (if s 0 = 3 then s 2 * 64 + t % 64 else if s 0 = 0 ∧ (194 ≤ t ∧ t ≤ 239) then (if t < 224 then t % 32 else t % 16) else s 2) else if j = 3 then (if s 0 = 3 then s 3 - 1 else if s 0 = 0 ∧ (194 ≤ t ∧ t ≤ 239) then (if t < 224 then 1 else 2) else s 3) else if j = 4 then (if s 0 = 3 then 128 else if s 0 = 0 ∧ (194 ≤ t ∧ t ≤ 239) then (if t = 224 then 160 else 128) else s 4) else if j = 5 then (if s 0 = 3 then 191 else if s 0 = 0 ∧ (194 ≤ t ∧ t ≤ 239) then (if t = 237 then 159 else 191) else s 5) else if j = 6 then t else s j
def pe_kw (s : Int → Int) : Prop := (0 ≤ s 0 ∧ s 0 ≤ 3) ∧ (s 0 = 2 → 0 ≤ s 1 ∧ s 1 ≤ 9999) ∧ (s 0 = 3 → ((s 3 = 1 ∧ 2 ≤ s 2 ∧ s 2 ≤ 1023) ∨ (s 3 = 2 ∧ 0 ≤ s 2 ∧ s 2 ≤ 15 ∧ (s 2 = 0 → s 4 = 160))) ∧ 128 ≤ s 4 ∧ s 5 ≤ 191)
theorem pe_kw_1 {s : Int → Int} {t : Int} (h : pe_kw s) : pe_kw (pe_kx s t) := by
  unfold pe_kw at h
  show (0 ≤ (if (s 0 = 1 ∧ t ≠ 91) ∨ (s 0 = 2 ∧ ¬ ((48 ≤ t ∧ t ≤ 57) ∨ (64 ≤ t ∧ t ≤ 126))) ∨ (s 0 = 3 ∧ (t < s 4 ∨ s 5 < t)) then 0 else s 0) ∧ (if (s 0 = 1 ∧ t ≠ 91) ∨ (s 0 = 2 ∧ ¬ ((48 ≤ t ∧ t ≤ 57) ∨ (64 ≤ t ∧ t ≤ 126))) ∨ (s 0 = 3 ∧ (t < s 4 ∨ s 5 < t)) then 0 else s 0) ≤ 3) ∧ ((if (s 0 = 1 ∧ t ≠ 91) ∨ (s 0 = 2 ∧ ¬ ((48 ≤ t ∧ t ≤ 57) ∨ (64 ≤ t ∧ t ≤ 126))) ∨ (s 0 = 3 ∧ (t < s 4 ∨ s 5 < t)) then 0 else s 0) = 2 → 0 ≤ s 1 ∧ s 1 ≤ 9999) ∧ ((if (s 0 = 1 ∧ t ≠ 91) ∨ (s 0 = 2 ∧ ¬ ((48 ≤ t ∧ t ≤ 57) ∨ (64 ≤ t ∧ t ≤ 126))) ∨ (s 0 = 3 ∧ (t < s 4 ∨ s 5 < t)) then 0 else s 0) = 3 → ((s 3 = 1 ∧ 2 ≤ s 2 ∧ s 2 ≤ 1023) ∨ (s 3 = 2 ∧ 0 ≤ s 2 ∧ s 2 ≤ 15 ∧ (s 2 = 0 → s 4 = 160))) ∧ 128 ≤ s 4 ∧ s 5 ≤ 191)
  omega
theorem pe_kg_1 (s : Int → Int) (t : Int) : (pe_kx s t 0 = 1 → t = 91) ∧ (pe_kx s t 0 = 2 → (48 ≤ t ∧ t ≤ 57) ∨ (64 ≤ t ∧ t ≤ 126)) ∧ (pe_kx s t 0 = 3 → s 4 ≤ t ∧ t ≤ s 5) := by
  show ((if (s 0 = 1 ∧ t ≠ 91) ∨ (s 0 = 2 ∧ ¬ ((48 ≤ t ∧ t ≤ 57) ∨ (64 ≤ t ∧ t ≤ 126))) ∨ (s 0 = 3 ∧ (t < s 4 ∨ s 5 < t)) then 0 else s 0) = 1 → t = 91) ∧ ((if (s 0 = 1 ∧ t ≠ 91) ∨ (s 0 = 2 ∧ ¬ ((48 ≤ t ∧ t ≤ 57) ∨ (64 ≤ t ∧ t ≤ 126))) ∨ (s 0 = 3 ∧ (t < s 4 ∨ s 5 < t)) then 0 else s 0) = 2 → (48 ≤ t ∧ t ≤ 57) ∨ (64 ≤ t ∧ t ≤ 126)) ∧ ((if (s 0 = 1 ∧ t ≠ 91) ∨ (s 0 = 2 ∧ ¬ ((48 ≤ t ∧ t ≤ 57) ∨ (64 ≤ t ∧ t ≤ 126))) ∨ (s 0 = 3 ∧ (t < s 4 ∨ s 5 < t)) then 0 else s 0) = 3 → s 4 ≤ t ∧ t ≤ s 5)
  omega
theorem pe_kw_2 {s : Int → Int} {t : Int} (h : pe_kw s) (ht : 0 ≤ t ∧ t ≤ 255) (hg : s 0 = 3 → s 4 ≤ t ∧ t ≤ s 5) : pe_kw (pe_ky s t) := by
  unfold pe_kw at h
  show (0 ≤ (if s 0 = 1 then 2 else if s 0 = 2 then (if (48 ≤ t ∧ t ≤ 57) then 2 else 0) else if s 0 = 3 then (if 1 < s 3 then 3 else 0) else if t = 27 then 1 else if (194 ≤ t ∧ t ≤ 239) then 3 else 0) ∧ (if s 0 = 1 then 2 else if s 0 = 2 then (if (48 ≤ t ∧ t ≤ 57) then 2 else 0) else if s 0 = 3 then (if 1 < s 3 then 3 else 0) else if t = 27 then 1 else if (194 ≤ t ∧ t ≤ 239) then 3 else 0) ≤ 3) ∧ ((if s 0 = 1 then 2 else if s 0 = 2 then (if (48 ≤ t ∧ t ≤ 57) then 2 else 0) else if s 0 = 3 then (if 1 < s 3 then 3 else 0) else if t = 27 then 1 else if (194 ≤ t ∧ t ≤ 239) then 3 else 0) = 2 → 0 ≤ (if s 0 = 1 then 0 else if s 0 = 2 ∧ (48 ≤ t ∧ t ≤ 57) then (if 9999 ≤ 10 * s 1 + t - 48 then 9999 else 10 * s 1 + t - 48) else s 1) ∧ (if s 0 = 1 then 0 else if s 0 = 2 ∧ (48 ≤ t ∧ t ≤ 57) then (if 9999 ≤ 10 * s 1 + t - 48 then 9999 else 10 * s 1 + t - 48) else s 1) ≤ 9999) ∧ ((if s 0 = 1 then 2 else if s 0 = 2 then (if (48 ≤ t ∧ t ≤ 57) then 2 else 0) else if s 0 = 3 then (if 1 < s 3 then 3 else 0) else if t = 27 then 1 else if (194 ≤ t ∧ t ≤ 239) then 3 else 0) = 3 → (((if s 0 = 3 then s 3 - 1 else if s 0 = 0 ∧ (194 ≤ t ∧ t ≤ 239) then (if t < 224 then 1 else 2) else s 3) = 1 ∧ 2 ≤ (if s 0 = 3 then s 2 * 64 + t % 64 else if s 0 = 0 ∧ (194 ≤ t ∧ t ≤ 239) then (if t < 224 then t % 32 else t % 16) else s 2) ∧ (if s 0 = 3 then s 2 * 64 + t % 64 else if s 0 = 0 ∧ (194 ≤ t ∧ t ≤ 239) then (if t < 224 then t % 32 else t % 16) else s 2) ≤ 1023) ∨ ((if s 0 = 3 then s 3 - 1 else if s 0 = 0 ∧ (194 ≤ t ∧ t ≤ 239) then (if t < 224 then 1 else 2) else s 3) = 2 ∧ 0 ≤ (if s 0 = 3 then s 2 * 64 + t % 64 else if s 0 = 0 ∧ (194 ≤ t ∧ t ≤ 239) then (if t < 224 then t % 32 else t % 16) else s 2) ∧ (if s 0 = 3 then s 2 * 64 + t % 64 else if s 0 = 0 ∧ (194 ≤ t ∧ t ≤ 239) then (if t < 224 then t % 32 else t % 16) else s 2) ≤ 15 ∧ ((if s 0 = 3 then s 2 * 64 + t % 64 else if s 0 = 0 ∧ (194 ≤ t ∧ t ≤ 239) then (if t < 224 then t % 32 else t % 16) else s 2) = 0 → (if s 0 = 3 then 128 else if s 0 = 0 ∧ (194 ≤ t ∧ t ≤ 239) then (if t = 224 then 160 else 128) else s 4) = 160))) ∧ 128 ≤ (if s 0 = 3 then 128 else if s 0 = 0 ∧ (194 ≤ t ∧ t ≤ 239) then (if t = 224 then 160 else 128) else s 4) ∧ (if s 0 = 3 then 191 else if s 0 = 0 ∧ (194 ≤ t ∧ t ≤ 239) then (if t = 237 then 159 else 191) else s 5) ≤ 191)
  rcases (show s 0 = 0 ∨ s 0 = 1 ∨ s 0 = 2 ∨ s 0 = 3 by omega) with e | e | e | e
  · omega
  · omega
  · omega
  · omega
theorem x_K_isDigit {σ : pe_H} {t : Int} (ht : pe_R t) : pe_M m_K_isDigit [pe_i t] σ (pe_qp σ (fun z => (z = 0 ∨ z = 1) ∧ (z = 1 ↔ (48 ≤ t ∧ t ≤ 57)))) := by
  refine pe_in0 (lv := [some (pe_i t)]) ?_
  refine pe_iload_n d_K_isDigit_0 rfl ?_
  refine pe_bipush d_K_isDigit_1 ?_
  refine pe_icmp_lt (t := 16) d_K_isDigit_3 (by first | exact hB _ _ | exact hB0 _ _ | exact hBt _ _ | exact ⟨by omega, by omega⟩) (by first | exact hB _ _ | exact hB0 _ _ | exact hBt _ _ | exact ⟨by omega, by omega⟩) (fun h3 => ?_) (fun h3 => ?_)
  · skip
    refine pe_iconst d_K_isDigit_16 ?_
    refine pe_rz d_K_isDigit_17 (by first | exact Or.inl rfl | exact Or.inr rfl | omega) ?_
    exact ⟨rfl, by omega⟩
  · skip
    refine pe_iload_n d_K_isDigit_6 rfl ?_
    refine pe_bipush d_K_isDigit_7 ?_
    refine pe_icmp_gt (t := 16) d_K_isDigit_9 (by first | exact hB _ _ | exact hB0 _ _ | exact hBt _ _ | exact ⟨by omega, by omega⟩) (by first | exact hB _ _ | exact hB0 _ _ | exact hBt _ _ | exact ⟨by omega, by omega⟩) (fun h9 => ?_) (fun h9 => ?_)
    · skip
      refine pe_iconst d_K_isDigit_16 ?_
      refine pe_rz d_K_isDigit_17 (by first | exact Or.inl rfl | exact Or.inr rfl | omega) ?_
      exact ⟨rfl, by omega⟩
    · skip
      refine pe_iconst d_K_isDigit_12 ?_
      refine pe_goto (t := 17) d_K_isDigit_13 ?_
      refine pe_rz d_K_isDigit_17 (by first | exact Or.inl rfl | exact Or.inr rfl | omega) ?_
      exact ⟨rfl, by omega⟩
theorem x_K_isFinal {σ : pe_H} {t : Int} (ht : pe_R t) : pe_M m_K_isFinal [pe_i t] σ (pe_qp σ (fun z => (z = 0 ∨ z = 1) ∧ (z = 1 ↔ (64 ≤ t ∧ t ≤ 126)))) := by
  refine pe_in0 (lv := [some (pe_i t)]) ?_
  refine pe_iload_n d_K_isFinal_0 rfl ?_
  refine pe_bipush d_K_isFinal_1 ?_
  refine pe_icmp_lt (t := 16) d_K_isFinal_3 (by first | exact hB _ _ | exact hB0 _ _ | exact hBt _ _ | exact ⟨by omega, by omega⟩) (by first | exact hB _ _ | exact hB0 _ _ | exact hBt _ _ | exact ⟨by omega, by omega⟩) (fun h3 => ?_) (fun h3 => ?_)
  · skip
    refine pe_iconst d_K_isFinal_16 ?_
    refine pe_rz d_K_isFinal_17 (by first | exact Or.inl rfl | exact Or.inr rfl | omega) ?_
    exact ⟨rfl, by omega⟩
  · skip
    refine pe_iload_n d_K_isFinal_6 rfl ?_
    refine pe_bipush d_K_isFinal_7 ?_
    refine pe_icmp_gt (t := 16) d_K_isFinal_9 (by first | exact hB _ _ | exact hB0 _ _ | exact hBt _ _ | exact ⟨by omega, by omega⟩) (by first | exact hB _ _ | exact hB0 _ _ | exact hBt _ _ | exact ⟨by omega, by omega⟩) (fun h9 => ?_) (fun h9 => ?_)
    · skip
      refine pe_iconst d_K_isFinal_16 ?_
      refine pe_rz d_K_isFinal_17 (by first | exact Or.inl rfl | exact Or.inr rfl | omega) ?_
      exact ⟨rfl, by omega⟩
    · skip
      refine pe_iconst d_K_isFinal_12 ?_
      refine pe_goto (t := 17) d_K_isFinal_13 ?_
      refine pe_rz d_K_isFinal_17 (by first | exact Or.inl rfl | exact Or.inr rfl | omega) ?_
      exact ⟨rfl, by omega⟩
theorem x_K_goesOn {σ : pe_H} {t : Int} (hB : pe_B σ) (ht : 0 ≤ t ∧ t ≤ 255) : pe_M m_K_goesOn [pe_r 1, pe_i t] σ (pe_qp σ (fun z => (z = 0 ∨ z = 1) ∧ (z = 0 ↔ (σ 1 0 = 1 ∧ t ≠ 91) ∨ (σ 1 0 = 2 ∧ ¬ ((48 ≤ t ∧ t ≤ 57) ∨ (64 ≤ t ∧ t ≤ 126))) ∨ (σ 1 0 = 3 ∧ (t < σ 1 4 ∨ σ 1 5 < t))))) := by
  refine pe_in0 (lv := [some (pe_r 1), some (pe_i t)]) ?_
  have hB0 := hB
  refine pe_aload_n d_K_goesOn_0 rfl ?_
  refine pe_geti f_K_11 d_K_goesOn_1 rfl rfl 0 rfl ?_
  refine pe_tsw [(1, 32), (2, 44), (3, 64)] (dt := 86) d_K_goesOn_4 (by first | exact hB _ _ | exact hB0 _ _ | exact hBt _ _ | exact ⟨by omega, by omega⟩) ?_
  refine ⟨fun h4 => ?_, fun h4_0 => ?_⟩
  · show pe_G _ _ _ _ _ _
    refine pe_iload_n d_K_goesOn_32 rfl ?_
    refine pe_bipush d_K_goesOn_33 ?_
    refine pe_icmp_ne (t := 42) d_K_goesOn_35 (by first | exact hB _ _ | exact hB0 _ _ | exact hBt _ _ | exact ⟨by omega, by omega⟩) (by first | exact hB _ _ | exact hB0 _ _ | exact hBt _ _ | exact ⟨by omega, by omega⟩) (fun h35 => ?_) (fun h35 => ?_)
    · skip
      refine pe_iconst d_K_goesOn_42 ?_
      refine pe_rz d_K_goesOn_43 (by first | exact Or.inl rfl | exact Or.inr rfl | omega) ?_
      exact ⟨rfl, by omega⟩
    · skip
      refine pe_iconst d_K_goesOn_38 ?_
      refine pe_goto (t := 43) d_K_goesOn_39 ?_
      refine pe_rz d_K_goesOn_43 (by first | exact Or.inl rfl | exact Or.inr rfl | omega) ?_
      exact ⟨rfl, by omega⟩
  refine ⟨fun h4 => ?_, fun h4_1 => ?_⟩
  · show pe_G _ _ _ _ _ _
    refine pe_iload_n d_K_goesOn_44 rfl ?_
    refine pe_s1p d_K_goesOn_45 c_K_40 z_K_isDigit (x_K_isDigit (by first | exact hB _ _ | exact hB0 _ _ | exact hBt _ _ | exact ⟨by omega, by omega⟩)) (fun z45 hz45 => ?_)
    refine pe_if_ne (t := 58) d_K_goesOn_48 (by first | exact hB _ _ | exact hB0 _ _ | exact hBt _ _ | exact ⟨by omega, by omega⟩) (fun h48 => ?_) (fun h48 => ?_)
    · skip
      refine pe_iconst d_K_goesOn_58 ?_
      refine pe_goto (t := 63) d_K_goesOn_59 ?_
      refine pe_rz d_K_goesOn_63 (by first | exact Or.inl rfl | exact Or.inr rfl | omega) ?_
      exact ⟨rfl, by omega⟩
    · skip
      refine pe_iload_n d_K_goesOn_51 rfl ?_
      refine pe_s1p d_K_goesOn_52 c_K_43 z_K_isFinal (x_K_isFinal (by first | exact hB _ _ | exact hB0 _ _ | exact hBt _ _ | exact ⟨by omega, by omega⟩)) (fun z52 hz52 => ?_)
      refine pe_if_eq (t := 62) d_K_goesOn_55 (by first | exact hB _ _ | exact hB0 _ _ | exact hBt _ _ | exact ⟨by omega, by omega⟩) (fun h55 => ?_) (fun h55 => ?_)
      · skip
        refine pe_iconst d_K_goesOn_62 ?_
        refine pe_rz d_K_goesOn_63 (by first | exact Or.inl rfl | exact Or.inr rfl | omega) ?_
        exact ⟨rfl, by omega⟩
      · skip
        refine pe_iconst d_K_goesOn_58 ?_
        refine pe_goto (t := 63) d_K_goesOn_59 ?_
        refine pe_rz d_K_goesOn_63 (by first | exact Or.inl rfl | exact Or.inr rfl | omega) ?_
        exact ⟨rfl, by omega⟩
  refine ⟨fun h4 => ?_, fun h4_2 => ?_⟩
  · show pe_G _ _ _ _ _ _
    refine pe_iload_n d_K_goesOn_64 rfl ?_
    refine pe_aload_n d_K_goesOn_65 rfl ?_
    refine pe_geti f_K_46 d_K_goesOn_66 rfl rfl 4 rfl ?_
    refine pe_icmp_lt (t := 84) d_K_goesOn_69 (by first | exact hB _ _ | exact hB0 _ _ | exact hBt _ _ | exact ⟨by omega, by omega⟩) (by first | exact hB _ _ | exact hB0 _ _ | exact hBt _ _ | exact ⟨by omega, by omega⟩) (fun h69 => ?_) (fun h69 => ?_)
    · skip
      refine pe_iconst d_K_goesOn_84 ?_
      refine pe_rz d_K_goesOn_85 (by first | exact Or.inl rfl | exact Or.inr rfl | omega) ?_
      exact ⟨rfl, by omega⟩
    · skip
      refine pe_iload_n d_K_goesOn_72 rfl ?_
      refine pe_aload_n d_K_goesOn_73 rfl ?_
      refine pe_geti f_K_49 d_K_goesOn_74 rfl rfl 5 rfl ?_
      refine pe_icmp_gt (t := 84) d_K_goesOn_77 (by first | exact hB _ _ | exact hB0 _ _ | exact hBt _ _ | exact ⟨by omega, by omega⟩) (by first | exact hB _ _ | exact hB0 _ _ | exact hBt _ _ | exact ⟨by omega, by omega⟩) (fun h77 => ?_) (fun h77 => ?_)
      · skip
        refine pe_iconst d_K_goesOn_84 ?_
        refine pe_rz d_K_goesOn_85 (by first | exact Or.inl rfl | exact Or.inr rfl | omega) ?_
        exact ⟨rfl, by omega⟩
      · skip
        refine pe_iconst d_K_goesOn_80 ?_
        refine pe_goto (t := 85) d_K_goesOn_81 ?_
        refine pe_rz d_K_goesOn_85 (by first | exact Or.inl rfl | exact Or.inr rfl | omega) ?_
        exact ⟨rfl, by omega⟩
  show pe_G _ _ _ _ _ _
  refine pe_iconst d_K_goesOn_86 ?_
  refine pe_rz d_K_goesOn_87 (by first | exact Or.inl rfl | exact Or.inr rfl | omega) ?_
  exact ⟨rfl, by omega⟩
theorem x_K_giveUp {σ : pe_H} (hB : pe_B σ) : pe_M m_K_giveUp [pe_r 1] σ (pe_qi (fun z σ' => pe_B σ' ∧ (∀ b, b ∉ [1] → σ' b = σ b) ∧ (z = if σ 1 0 = 1 then 27 else if σ 1 0 = 3 then 65533 else -1) ∧ σ' 1 0 = 0 ∧ ∀ j, j ≠ 0 → σ' 1 j = σ 1 j)) := by
  refine pe_in0 (lv := [some (pe_r 1), none]) ?_
  have hB0 := hB
  refine pe_aload_n d_K_giveUp_0 rfl ?_
  refine pe_geti f_K_11 d_K_giveUp_1 rfl rfl 0 rfl ?_
  refine pe_istore_n d_K_giveUp_4 ?_
  refine pe_aload_n d_K_giveUp_5 rfl ?_
  refine pe_iconst d_K_giveUp_6 ?_
  refine pe_putiT f_K_11 g_1_0 d_K_giveUp_7 rfl rfl 0 rfl hB (by first | exact hB _ _ | exact hB0 _ _ | exact hBt _ _ | exact ⟨by omega, by omega⟩) (fun σ7 hB e7 o7 f7 => ?_)
  refine pe_iload_n d_K_giveUp_10 rfl ?_
  refine pe_iconst d_K_giveUp_11 ?_
  refine pe_icmp_ne (t := 18) d_K_giveUp_12 (by first | exact hB _ _ | exact hB0 _ _ | exact hBt _ _ | exact ⟨by omega, by omega⟩) (by first | exact hB _ _ | exact hB0 _ _ | exact hBt _ _ | exact ⟨by omega, by omega⟩) (fun h12 => ?_) (fun h12 => ?_)
  · skip
    refine pe_iload_n d_K_giveUp_18 rfl ?_
    refine pe_iconst d_K_giveUp_19 ?_
    refine pe_icmp_ne (t := 28) d_K_giveUp_20 (by first | exact hB _ _ | exact hB0 _ _ | exact hBt _ _ | exact ⟨by omega, by omega⟩) (by first | exact hB _ _ | exact hB0 _ _ | exact hBt _ _ | exact ⟨by omega, by omega⟩) (fun h20 => ?_) (fun h20 => ?_)
    · skip
      refine pe_iconst d_K_giveUp_28 ?_
      refine pe_ri d_K_giveUp_29 ?_
      exact ⟨hB, (fun b hb => (f7 b (by simp at hb ⊢; try omega)).trans (rfl)), by (try dsimp only); omega, e7, o7⟩
    · skip
      refine pe_ldc q_K_26 d_K_giveUp_23 (z := 65533) rfl ?_
      refine pe_goto (t := 29) d_K_giveUp_25 ?_
      refine pe_ri d_K_giveUp_29 ?_
      exact ⟨hB, (fun b hb => (f7 b (by simp at hb ⊢; try omega)).trans (rfl)), by (try dsimp only); omega, e7, o7⟩
  · skip
    refine pe_bipush d_K_giveUp_15 ?_
    refine pe_ri d_K_giveUp_17 ?_
    exact ⟨hB, (fun b hb => (f7 b (by simp at hb ⊢; try omega)).trans (rfl)), by (try dsimp only); omega, e7, o7⟩
theorem x_K_leave {σ : pe_H} {t : Int} (hB : pe_B σ) (ht : 0 ≤ t ∧ t ≤ 255) : pe_M m_K_leave [pe_r 1, pe_i t] σ (pe_qi (fun z σ' => pe_B σ' ∧ (∀ b, b ∉ [1] → σ' b = σ b) ∧ (z = (if σ 1 0 = 1 ∧ t ≠ 91 then 27 else if σ 1 0 = 3 ∧ (t < σ 1 4 ∨ σ 1 5 < t) then 65533 else -1)) ∧ σ' 1 0 = (if (σ 1 0 = 1 ∧ t ≠ 91) ∨ (σ 1 0 = 2 ∧ ¬ ((48 ≤ t ∧ t ≤ 57) ∨ (64 ≤ t ∧ t ≤ 126))) ∨ (σ 1 0 = 3 ∧ (t < σ 1 4 ∨ σ 1 5 < t)) then 0 else σ 1 0) ∧ ∀ j, j ≠ 0 → σ' 1 j = σ 1 j)) := by
  refine pe_in0 (lv := [some (pe_r 1), some (pe_i t)]) ?_
  have hB0 := hB
  refine pe_aload_n d_K_leave_0 rfl ?_
  refine pe_iload_n d_K_leave_1 rfl ?_
  refine pe_v1p d_K_leave_2 c_K_18 i_K_goesOn s_K_goesOn rfl rfl (x_K_goesOn hB (by omega)) (fun z2 hz2 => ?_)
  refine pe_if_eq (t := 12) d_K_leave_5 (by first | exact hB _ _ | exact hB0 _ _ | exact hBt _ _ | exact ⟨by omega, by omega⟩) (fun h5 => ?_) (fun h5 => ?_)
  · skip
    refine pe_aload_n d_K_leave_12 rfl ?_
    refine pe_v0i d_K_leave_13 c_K_22 i_K_giveUp s_K_giveUp rfl rfl (x_K_giveUp hB) (fun z13 σ13 hz13 => ?_)
    obtain ⟨hB, f13, x13⟩ := hz13
    skip
    refine pe_ri d_K_leave_16 ?_
    first
    | exact ⟨hB, (fun b hb => (f13 b (by simp at hb ⊢; try omega)).trans (rfl)), by (try dsimp only); omega, by (try dsimp only); omega, x13.2.2⟩
    | exact ⟨hB, (fun b hb => (f13 b (by simp at hb ⊢; try omega)).trans (rfl)), by (try dsimp only); omega, by (try dsimp only); omega, fun _ _ => rfl⟩
  · skip
    refine pe_iconst d_K_leave_8 ?_
    refine pe_goto (t := 16) d_K_leave_9 ?_
    refine pe_ri d_K_leave_16 ?_
    first
    | exact ⟨hB, (fun b hb => rfl), by (try dsimp only); omega, by (try dsimp only); omega, x13.2.2⟩
    | exact ⟨hB, (fun b hb => rfl), by (try dsimp only); omega, by (try dsimp only); omega, fun _ _ => rfl⟩
theorem x_K_beginCharacter {σ : pe_H} {t : Int} (hB : pe_B σ) (ht : 0 ≤ t ∧ t ≤ 255) : pe_M m_K_beginCharacter [pe_r 1, pe_i t] σ (pe_qv (fun σ' => pe_B σ' ∧ (∀ b, b ∉ [1] → σ' b = σ b) ∧ (σ' 1 0 = 3 ∧ σ' 1 1 = σ 1 1 ∧ σ' 1 6 = σ 1 6) ∧ (σ' 1 2 = (if t < 224 then t % 32 else t % 16)) ∧ (σ' 1 3 = (if t < 224 then 1 else 2)) ∧ (σ' 1 4 = (if t = 224 then 160 else 128)) ∧ σ' 1 5 = (if t = 237 then 159 else 191))) := by
  refine pe_in0 (lv := [some (pe_r 1), some (pe_i t)]) ?_
  have hB0 := hB
  refine pe_aload_n d_K_beginCharacter_0 rfl ?_
  refine pe_iconst d_K_beginCharacter_1 ?_
  refine pe_putiT f_K_11 g_1_0 d_K_beginCharacter_2 rfl rfl 0 rfl hB (by first | exact hB _ _ | exact hB0 _ _ | exact hBt _ _ | exact ⟨by omega, by omega⟩) (fun σ2 hB e2 o2 f2 => ?_)
  try have u2_0 : σ2 1 0 = σ 1 0 := by first | exact o2 0 (by decide) | exact congrFun (f2 1 (by decide)) 0
  try have u2_1 : σ2 1 1 = σ 1 1 := by first | exact o2 1 (by decide) | exact congrFun (f2 1 (by decide)) 1
  try have u2_2 : σ2 1 2 = σ 1 2 := by first | exact o2 2 (by decide) | exact congrFun (f2 1 (by decide)) 2
  try have u2_3 : σ2 1 3 = σ 1 3 := by first | exact o2 3 (by decide) | exact congrFun (f2 1 (by decide)) 3
  try have u2_4 : σ2 1 4 = σ 1 4 := by first | exact o2 4 (by decide) | exact congrFun (f2 1 (by decide)) 4
  try have u2_5 : σ2 1 5 = σ 1 5 := by first | exact o2 5 (by decide) | exact congrFun (f2 1 (by decide)) 5
  try have u2_6 : σ2 1 6 = σ 1 6 := by first | exact o2 6 (by decide) | exact congrFun (f2 1 (by decide)) 6
  refine pe_aload_n d_K_beginCharacter_5 rfl ?_
  refine pe_iload_n d_K_beginCharacter_6 rfl ?_
  refine pe_sipush d_K_beginCharacter_7 ?_
  refine pe_icmp_ge (t := 17) d_K_beginCharacter_10 (by first | exact hB _ _ | exact hB0 _ _ | exact hBt _ _ | exact ⟨by omega, by omega⟩) (by first | exact hB _ _ | exact hB0 _ _ | exact hBt _ _ | exact ⟨by omega, by omega⟩) (fun h10 => ?_) (fun h10 => ?_)
  · skip
    refine pe_iconst d_K_beginCharacter_17 ?_
    refine pe_putiT f_K_56 g_1_3 d_K_beginCharacter_18 rfl rfl 3 rfl hB (by first | exact hB _ _ | exact hB0 _ _ | exact hBt _ _ | exact ⟨by omega, by omega⟩) (fun σ18 hB e18 o18 f18 => ?_)
    try have u18_0 : σ18 1 0 = σ2 1 0 := by first | exact o18 0 (by decide) | exact congrFun (f18 1 (by decide)) 0
    try have u18_1 : σ18 1 1 = σ2 1 1 := by first | exact o18 1 (by decide) | exact congrFun (f18 1 (by decide)) 1
    try have u18_2 : σ18 1 2 = σ2 1 2 := by first | exact o18 2 (by decide) | exact congrFun (f18 1 (by decide)) 2
    try have u18_3 : σ18 1 3 = σ2 1 3 := by first | exact o18 3 (by decide) | exact congrFun (f18 1 (by decide)) 3
    try have u18_4 : σ18 1 4 = σ2 1 4 := by first | exact o18 4 (by decide) | exact congrFun (f18 1 (by decide)) 4
    try have u18_5 : σ18 1 5 = σ2 1 5 := by first | exact o18 5 (by decide) | exact congrFun (f18 1 (by decide)) 5
    try have u18_6 : σ18 1 6 = σ2 1 6 := by first | exact o18 6 (by decide) | exact congrFun (f18 1 (by decide)) 6
    refine pe_aload_n d_K_beginCharacter_21 rfl ?_
    refine pe_iload_n d_K_beginCharacter_22 rfl ?_
    refine pe_sipush d_K_beginCharacter_23 ?_
    refine pe_icmp_ge (t := 36) d_K_beginCharacter_26 (by first | exact hB _ _ | exact hB0 _ _ | exact hBt _ _ | exact ⟨by omega, by omega⟩) (by first | exact hB _ _ | exact hB0 _ _ | exact hBt _ _ | exact ⟨by omega, by omega⟩) (fun h26 => ?_) (fun h26 => ?_)
    · skip
      refine pe_iload_n d_K_beginCharacter_36 rfl ?_
      refine pe_bipush d_K_beginCharacter_37 ?_
      refine pe_iand d_K_beginCharacter_39 (pe_and 4 16 (by omega) (by omega)) ?_
      refine pe_putiT f_K_59 g_1_2 d_K_beginCharacter_40 rfl rfl 2 rfl hB (by first | exact hB _ _ | exact hB0 _ _ | exact hBt _ _ | exact ⟨by omega, by omega⟩) (fun σ40 hB e40 o40 f40 => ?_)
      try have u40_0 : σ40 1 0 = σ18 1 0 := by first | exact o40 0 (by decide) | exact congrFun (f40 1 (by decide)) 0
      try have u40_1 : σ40 1 1 = σ18 1 1 := by first | exact o40 1 (by decide) | exact congrFun (f40 1 (by decide)) 1
      try have u40_2 : σ40 1 2 = σ18 1 2 := by first | exact o40 2 (by decide) | exact congrFun (f40 1 (by decide)) 2
      try have u40_3 : σ40 1 3 = σ18 1 3 := by first | exact o40 3 (by decide) | exact congrFun (f40 1 (by decide)) 3
      try have u40_4 : σ40 1 4 = σ18 1 4 := by first | exact o40 4 (by decide) | exact congrFun (f40 1 (by decide)) 4
      try have u40_5 : σ40 1 5 = σ18 1 5 := by first | exact o40 5 (by decide) | exact congrFun (f40 1 (by decide)) 5
      try have u40_6 : σ40 1 6 = σ18 1 6 := by first | exact o40 6 (by decide) | exact congrFun (f40 1 (by decide)) 6
      refine pe_aload_n d_K_beginCharacter_43 rfl ?_
      refine pe_iload_n d_K_beginCharacter_44 rfl ?_
      refine pe_sipush d_K_beginCharacter_45 ?_
      refine pe_icmp_ne (t := 57) d_K_beginCharacter_48 (by first | exact hB _ _ | exact hB0 _ _ | exact hBt _ _ | exact ⟨by omega, by omega⟩) (by first | exact hB _ _ | exact hB0 _ _ | exact hBt _ _ | exact ⟨by omega, by omega⟩) (fun h48 => ?_) (fun h48 => ?_)
      · skip
        refine pe_sipush d_K_beginCharacter_57 ?_
        refine pe_putiT f_K_46 g_1_4 d_K_beginCharacter_60 rfl rfl 4 rfl hB (by first | exact hB _ _ | exact hB0 _ _ | exact hBt _ _ | exact ⟨by omega, by omega⟩) (fun σ60 hB e60 o60 f60 => ?_)
        try have u60_0 : σ60 1 0 = σ40 1 0 := by first | exact o60 0 (by decide) | exact congrFun (f60 1 (by decide)) 0
        try have u60_1 : σ60 1 1 = σ40 1 1 := by first | exact o60 1 (by decide) | exact congrFun (f60 1 (by decide)) 1
        try have u60_2 : σ60 1 2 = σ40 1 2 := by first | exact o60 2 (by decide) | exact congrFun (f60 1 (by decide)) 2
        try have u60_3 : σ60 1 3 = σ40 1 3 := by first | exact o60 3 (by decide) | exact congrFun (f60 1 (by decide)) 3
        try have u60_4 : σ60 1 4 = σ40 1 4 := by first | exact o60 4 (by decide) | exact congrFun (f60 1 (by decide)) 4
        try have u60_5 : σ60 1 5 = σ40 1 5 := by first | exact o60 5 (by decide) | exact congrFun (f60 1 (by decide)) 5
        try have u60_6 : σ60 1 6 = σ40 1 6 := by first | exact o60 6 (by decide) | exact congrFun (f60 1 (by decide)) 6
        refine pe_aload_n d_K_beginCharacter_63 rfl ?_
        refine pe_iload_n d_K_beginCharacter_64 rfl ?_
        refine pe_sipush d_K_beginCharacter_65 ?_
        refine pe_icmp_ne (t := 77) d_K_beginCharacter_68 (by first | exact hB _ _ | exact hB0 _ _ | exact hBt _ _ | exact ⟨by omega, by omega⟩) (by first | exact hB _ _ | exact hB0 _ _ | exact hBt _ _ | exact ⟨by omega, by omega⟩) (fun h68 => ?_) (fun h68 => ?_)
        · skip
          refine pe_sipush d_K_beginCharacter_77 ?_
          refine pe_putiT f_K_49 g_1_5 d_K_beginCharacter_80 rfl rfl 5 rfl hB (by first | exact hB _ _ | exact hB0 _ _ | exact hBt _ _ | exact ⟨by omega, by omega⟩) (fun σ80 hB e80 o80 f80 => ?_)
          try have u80_0 : σ80 1 0 = σ60 1 0 := by first | exact o80 0 (by decide) | exact congrFun (f80 1 (by decide)) 0
          try have u80_1 : σ80 1 1 = σ60 1 1 := by first | exact o80 1 (by decide) | exact congrFun (f80 1 (by decide)) 1
          try have u80_2 : σ80 1 2 = σ60 1 2 := by first | exact o80 2 (by decide) | exact congrFun (f80 1 (by decide)) 2
          try have u80_3 : σ80 1 3 = σ60 1 3 := by first | exact o80 3 (by decide) | exact congrFun (f80 1 (by decide)) 3
          try have u80_4 : σ80 1 4 = σ60 1 4 := by first | exact o80 4 (by decide) | exact congrFun (f80 1 (by decide)) 4
          try have u80_5 : σ80 1 5 = σ60 1 5 := by first | exact o80 5 (by decide) | exact congrFun (f80 1 (by decide)) 5
          try have u80_6 : σ80 1 6 = σ60 1 6 := by first | exact o80 6 (by decide) | exact congrFun (f80 1 (by decide)) 6
          refine pe_rv d_K_beginCharacter_83 ?_
          exact ⟨hB, (fun b hb => (f80 b (by simp at hb ⊢; try omega)).trans ((f60 b (by simp at hb ⊢; try omega)).trans ((f40 b (by simp at hb ⊢; try omega)).trans ((f18 b (by simp at hb ⊢; try omega)).trans ((f2 b (by simp at hb ⊢; try omega)).trans (rfl)))))), by omega⟩
        · skip
          refine pe_sipush d_K_beginCharacter_71 ?_
          refine pe_goto (t := 80) d_K_beginCharacter_74 ?_
          refine pe_putiT f_K_49 g_1_5 d_K_beginCharacter_80 rfl rfl 5 rfl hB (by first | exact hB _ _ | exact hB0 _ _ | exact hBt _ _ | exact ⟨by omega, by omega⟩) (fun σ80 hB e80 o80 f80 => ?_)
          try have u80_0 : σ80 1 0 = σ60 1 0 := by first | exact o80 0 (by decide) | exact congrFun (f80 1 (by decide)) 0
          try have u80_1 : σ80 1 1 = σ60 1 1 := by first | exact o80 1 (by decide) | exact congrFun (f80 1 (by decide)) 1
          try have u80_2 : σ80 1 2 = σ60 1 2 := by first | exact o80 2 (by decide) | exact congrFun (f80 1 (by decide)) 2
          try have u80_3 : σ80 1 3 = σ60 1 3 := by first | exact o80 3 (by decide) | exact congrFun (f80 1 (by decide)) 3
          try have u80_4 : σ80 1 4 = σ60 1 4 := by first | exact o80 4 (by decide) | exact congrFun (f80 1 (by decide)) 4
          try have u80_5 : σ80 1 5 = σ60 1 5 := by first | exact o80 5 (by decide) | exact congrFun (f80 1 (by decide)) 5
          try have u80_6 : σ80 1 6 = σ60 1 6 := by first | exact o80 6 (by decide) | exact congrFun (f80 1 (by decide)) 6
          refine pe_rv d_K_beginCharacter_83 ?_
          exact ⟨hB, (fun b hb => (f80 b (by simp at hb ⊢; try omega)).trans ((f60 b (by simp at hb ⊢; try omega)).trans ((f40 b (by simp at hb ⊢; try omega)).trans ((f18 b (by simp at hb ⊢; try omega)).trans ((f2 b (by simp at hb ⊢; try omega)).trans (rfl)))))), by omega⟩
      · skip
        refine pe_sipush d_K_beginCharacter_51 ?_
        refine pe_goto (t := 60) d_K_beginCharacter_54 ?_
        refine pe_putiT f_K_46 g_1_4 d_K_beginCharacter_60 rfl rfl 4 rfl hB (by first | exact hB _ _ | exact hB0 _ _ | exact hBt _ _ | exact ⟨by omega, by omega⟩) (fun σ60 hB e60 o60 f60 => ?_)
        try have u60_0 : σ60 1 0 = σ40 1 0 := by first | exact o60 0 (by decide) | exact congrFun (f60 1 (by decide)) 0
        try have u60_1 : σ60 1 1 = σ40 1 1 := by first | exact o60 1 (by decide) | exact congrFun (f60 1 (by decide)) 1
        try have u60_2 : σ60 1 2 = σ40 1 2 := by first | exact o60 2 (by decide) | exact congrFun (f60 1 (by decide)) 2
        try have u60_3 : σ60 1 3 = σ40 1 3 := by first | exact o60 3 (by decide) | exact congrFun (f60 1 (by decide)) 3
        try have u60_4 : σ60 1 4 = σ40 1 4 := by first | exact o60 4 (by decide) | exact congrFun (f60 1 (by decide)) 4
        try have u60_5 : σ60 1 5 = σ40 1 5 := by first | exact o60 5 (by decide) | exact congrFun (f60 1 (by decide)) 5
        try have u60_6 : σ60 1 6 = σ40 1 6 := by first | exact o60 6 (by decide) | exact congrFun (f60 1 (by decide)) 6
        refine pe_aload_n d_K_beginCharacter_63 rfl ?_
        refine pe_iload_n d_K_beginCharacter_64 rfl ?_
        refine pe_sipush d_K_beginCharacter_65 ?_
        refine pe_icmp_ne (t := 77) d_K_beginCharacter_68 (by first | exact hB _ _ | exact hB0 _ _ | exact hBt _ _ | exact ⟨by omega, by omega⟩) (by first | exact hB _ _ | exact hB0 _ _ | exact hBt _ _ | exact ⟨by omega, by omega⟩) (fun h68 => ?_) (fun h68 => ?_)
        · skip
          refine pe_sipush d_K_beginCharacter_77 ?_
          refine pe_putiT f_K_49 g_1_5 d_K_beginCharacter_80 rfl rfl 5 rfl hB (by first | exact hB _ _ | exact hB0 _ _ | exact hBt _ _ | exact ⟨by omega, by omega⟩) (fun σ80 hB e80 o80 f80 => ?_)
          try have u80_0 : σ80 1 0 = σ60 1 0 := by first | exact o80 0 (by decide) | exact congrFun (f80 1 (by decide)) 0
          try have u80_1 : σ80 1 1 = σ60 1 1 := by first | exact o80 1 (by decide) | exact congrFun (f80 1 (by decide)) 1
          try have u80_2 : σ80 1 2 = σ60 1 2 := by first | exact o80 2 (by decide) | exact congrFun (f80 1 (by decide)) 2
          try have u80_3 : σ80 1 3 = σ60 1 3 := by first | exact o80 3 (by decide) | exact congrFun (f80 1 (by decide)) 3
          try have u80_4 : σ80 1 4 = σ60 1 4 := by first | exact o80 4 (by decide) | exact congrFun (f80 1 (by decide)) 4
          try have u80_5 : σ80 1 5 = σ60 1 5 := by first | exact o80 5 (by decide) | exact congrFun (f80 1 (by decide)) 5
          try have u80_6 : σ80 1 6 = σ60 1 6 := by first | exact o80 6 (by decide) | exact congrFun (f80 1 (by decide)) 6
          refine pe_rv d_K_beginCharacter_83 ?_
          exact ⟨hB, (fun b hb => (f80 b (by simp at hb ⊢; try omega)).trans ((f60 b (by simp at hb ⊢; try omega)).trans ((f40 b (by simp at hb ⊢; try omega)).trans ((f18 b (by simp at hb ⊢; try omega)).trans ((f2 b (by simp at hb ⊢; try omega)).trans (rfl)))))), by omega⟩
        · skip
          refine pe_sipush d_K_beginCharacter_71 ?_
          refine pe_goto (t := 80) d_K_beginCharacter_74 ?_
          refine pe_putiT f_K_49 g_1_5 d_K_beginCharacter_80 rfl rfl 5 rfl hB (by first | exact hB _ _ | exact hB0 _ _ | exact hBt _ _ | exact ⟨by omega, by omega⟩) (fun σ80 hB e80 o80 f80 => ?_)
          try have u80_0 : σ80 1 0 = σ60 1 0 := by first | exact o80 0 (by decide) | exact congrFun (f80 1 (by decide)) 0
          try have u80_1 : σ80 1 1 = σ60 1 1 := by first | exact o80 1 (by decide) | exact congrFun (f80 1 (by decide)) 1
          try have u80_2 : σ80 1 2 = σ60 1 2 := by first | exact o80 2 (by decide) | exact congrFun (f80 1 (by decide)) 2
          try have u80_3 : σ80 1 3 = σ60 1 3 := by first | exact o80 3 (by decide) | exact congrFun (f80 1 (by decide)) 3
          try have u80_4 : σ80 1 4 = σ60 1 4 := by first | exact o80 4 (by decide) | exact congrFun (f80 1 (by decide)) 4
          try have u80_5 : σ80 1 5 = σ60 1 5 := by first | exact o80 5 (by decide) | exact congrFun (f80 1 (by decide)) 5
          try have u80_6 : σ80 1 6 = σ60 1 6 := by first | exact o80 6 (by decide) | exact congrFun (f80 1 (by decide)) 6
          refine pe_rv d_K_beginCharacter_83 ?_
          exact ⟨hB, (fun b hb => (f80 b (by simp at hb ⊢; try omega)).trans ((f60 b (by simp at hb ⊢; try omega)).trans ((f40 b (by simp at hb ⊢; try omega)).trans ((f18 b (by simp at hb ⊢; try omega)).trans ((f2 b (by simp at hb ⊢; try omega)).trans (rfl)))))), by omega⟩
    · skip
      refine pe_iload_n d_K_beginCharacter_29 rfl ?_
      refine pe_bipush d_K_beginCharacter_30 ?_
      refine pe_iand d_K_beginCharacter_32 (pe_and 5 32 (by omega) (by omega)) ?_
      refine pe_goto (t := 40) d_K_beginCharacter_33 ?_
      refine pe_putiT f_K_59 g_1_2 d_K_beginCharacter_40 rfl rfl 2 rfl hB (by first | exact hB _ _ | exact hB0 _ _ | exact hBt _ _ | exact ⟨by omega, by omega⟩) (fun σ40 hB e40 o40 f40 => ?_)
      try have u40_0 : σ40 1 0 = σ18 1 0 := by first | exact o40 0 (by decide) | exact congrFun (f40 1 (by decide)) 0
      try have u40_1 : σ40 1 1 = σ18 1 1 := by first | exact o40 1 (by decide) | exact congrFun (f40 1 (by decide)) 1
      try have u40_2 : σ40 1 2 = σ18 1 2 := by first | exact o40 2 (by decide) | exact congrFun (f40 1 (by decide)) 2
      try have u40_3 : σ40 1 3 = σ18 1 3 := by first | exact o40 3 (by decide) | exact congrFun (f40 1 (by decide)) 3
      try have u40_4 : σ40 1 4 = σ18 1 4 := by first | exact o40 4 (by decide) | exact congrFun (f40 1 (by decide)) 4
      try have u40_5 : σ40 1 5 = σ18 1 5 := by first | exact o40 5 (by decide) | exact congrFun (f40 1 (by decide)) 5
      try have u40_6 : σ40 1 6 = σ18 1 6 := by first | exact o40 6 (by decide) | exact congrFun (f40 1 (by decide)) 6
      refine pe_aload_n d_K_beginCharacter_43 rfl ?_
      refine pe_iload_n d_K_beginCharacter_44 rfl ?_
      refine pe_sipush d_K_beginCharacter_45 ?_
      refine pe_icmp_ne (t := 57) d_K_beginCharacter_48 (by first | exact hB _ _ | exact hB0 _ _ | exact hBt _ _ | exact ⟨by omega, by omega⟩) (by first | exact hB _ _ | exact hB0 _ _ | exact hBt _ _ | exact ⟨by omega, by omega⟩) (fun h48 => ?_) (fun h48 => ?_)
      · skip
        refine pe_sipush d_K_beginCharacter_57 ?_
        refine pe_putiT f_K_46 g_1_4 d_K_beginCharacter_60 rfl rfl 4 rfl hB (by first | exact hB _ _ | exact hB0 _ _ | exact hBt _ _ | exact ⟨by omega, by omega⟩) (fun σ60 hB e60 o60 f60 => ?_)
        try have u60_0 : σ60 1 0 = σ40 1 0 := by first | exact o60 0 (by decide) | exact congrFun (f60 1 (by decide)) 0
        try have u60_1 : σ60 1 1 = σ40 1 1 := by first | exact o60 1 (by decide) | exact congrFun (f60 1 (by decide)) 1
        try have u60_2 : σ60 1 2 = σ40 1 2 := by first | exact o60 2 (by decide) | exact congrFun (f60 1 (by decide)) 2
        try have u60_3 : σ60 1 3 = σ40 1 3 := by first | exact o60 3 (by decide) | exact congrFun (f60 1 (by decide)) 3
        try have u60_4 : σ60 1 4 = σ40 1 4 := by first | exact o60 4 (by decide) | exact congrFun (f60 1 (by decide)) 4
        try have u60_5 : σ60 1 5 = σ40 1 5 := by first | exact o60 5 (by decide) | exact congrFun (f60 1 (by decide)) 5
        try have u60_6 : σ60 1 6 = σ40 1 6 := by first | exact o60 6 (by decide) | exact congrFun (f60 1 (by decide)) 6
        refine pe_aload_n d_K_beginCharacter_63 rfl ?_
        refine pe_iload_n d_K_beginCharacter_64 rfl ?_
        refine pe_sipush d_K_beginCharacter_65 ?_
        refine pe_icmp_ne (t := 77) d_K_beginCharacter_68 (by first | exact hB _ _ | exact hB0 _ _ | exact hBt _ _ | exact ⟨by omega, by omega⟩) (by first | exact hB _ _ | exact hB0 _ _ | exact hBt _ _ | exact ⟨by omega, by omega⟩) (fun h68 => ?_) (fun h68 => ?_)
        · skip
          refine pe_sipush d_K_beginCharacter_77 ?_
          refine pe_putiT f_K_49 g_1_5 d_K_beginCharacter_80 rfl rfl 5 rfl hB (by first | exact hB _ _ | exact hB0 _ _ | exact hBt _ _ | exact ⟨by omega, by omega⟩) (fun σ80 hB e80 o80 f80 => ?_)
          try have u80_0 : σ80 1 0 = σ60 1 0 := by first | exact o80 0 (by decide) | exact congrFun (f80 1 (by decide)) 0
          try have u80_1 : σ80 1 1 = σ60 1 1 := by first | exact o80 1 (by decide) | exact congrFun (f80 1 (by decide)) 1
          try have u80_2 : σ80 1 2 = σ60 1 2 := by first | exact o80 2 (by decide) | exact congrFun (f80 1 (by decide)) 2
          try have u80_3 : σ80 1 3 = σ60 1 3 := by first | exact o80 3 (by decide) | exact congrFun (f80 1 (by decide)) 3
          try have u80_4 : σ80 1 4 = σ60 1 4 := by first | exact o80 4 (by decide) | exact congrFun (f80 1 (by decide)) 4
          try have u80_5 : σ80 1 5 = σ60 1 5 := by first | exact o80 5 (by decide) | exact congrFun (f80 1 (by decide)) 5
          try have u80_6 : σ80 1 6 = σ60 1 6 := by first | exact o80 6 (by decide) | exact congrFun (f80 1 (by decide)) 6
          refine pe_rv d_K_beginCharacter_83 ?_
          exact ⟨hB, (fun b hb => (f80 b (by simp at hb ⊢; try omega)).trans ((f60 b (by simp at hb ⊢; try omega)).trans ((f40 b (by simp at hb ⊢; try omega)).trans ((f18 b (by simp at hb ⊢; try omega)).trans ((f2 b (by simp at hb ⊢; try omega)).trans (rfl)))))), by omega⟩
        · skip
          refine pe_sipush d_K_beginCharacter_71 ?_
          refine pe_goto (t := 80) d_K_beginCharacter_74 ?_
          refine pe_putiT f_K_49 g_1_5 d_K_beginCharacter_80 rfl rfl 5 rfl hB (by first | exact hB _ _ | exact hB0 _ _ | exact hBt _ _ | exact ⟨by omega, by omega⟩) (fun σ80 hB e80 o80 f80 => ?_)
          try have u80_0 : σ80 1 0 = σ60 1 0 := by first | exact o80 0 (by decide) | exact congrFun (f80 1 (by decide)) 0
          try have u80_1 : σ80 1 1 = σ60 1 1 := by first | exact o80 1 (by decide) | exact congrFun (f80 1 (by decide)) 1
          try have u80_2 : σ80 1 2 = σ60 1 2 := by first | exact o80 2 (by decide) | exact congrFun (f80 1 (by decide)) 2
          try have u80_3 : σ80 1 3 = σ60 1 3 := by first | exact o80 3 (by decide) | exact congrFun (f80 1 (by decide)) 3
          try have u80_4 : σ80 1 4 = σ60 1 4 := by first | exact o80 4 (by decide) | exact congrFun (f80 1 (by decide)) 4
          try have u80_5 : σ80 1 5 = σ60 1 5 := by first | exact o80 5 (by decide) | exact congrFun (f80 1 (by decide)) 5
          try have u80_6 : σ80 1 6 = σ60 1 6 := by first | exact o80 6 (by decide) | exact congrFun (f80 1 (by decide)) 6
          refine pe_rv d_K_beginCharacter_83 ?_
          exact ⟨hB, (fun b hb => (f80 b (by simp at hb ⊢; try omega)).trans ((f60 b (by simp at hb ⊢; try omega)).trans ((f40 b (by simp at hb ⊢; try omega)).trans ((f18 b (by simp at hb ⊢; try omega)).trans ((f2 b (by simp at hb ⊢; try omega)).trans (rfl)))))), by omega⟩
      · skip
        refine pe_sipush d_K_beginCharacter_51 ?_
        refine pe_goto (t := 60) d_K_beginCharacter_54 ?_
        refine pe_putiT f_K_46 g_1_4 d_K_beginCharacter_60 rfl rfl 4 rfl hB (by first | exact hB _ _ | exact hB0 _ _ | exact hBt _ _ | exact ⟨by omega, by omega⟩) (fun σ60 hB e60 o60 f60 => ?_)
        try have u60_0 : σ60 1 0 = σ40 1 0 := by first | exact o60 0 (by decide) | exact congrFun (f60 1 (by decide)) 0
        try have u60_1 : σ60 1 1 = σ40 1 1 := by first | exact o60 1 (by decide) | exact congrFun (f60 1 (by decide)) 1
        try have u60_2 : σ60 1 2 = σ40 1 2 := by first | exact o60 2 (by decide) | exact congrFun (f60 1 (by decide)) 2
        try have u60_3 : σ60 1 3 = σ40 1 3 := by first | exact o60 3 (by decide) | exact congrFun (f60 1 (by decide)) 3
        try have u60_4 : σ60 1 4 = σ40 1 4 := by first | exact o60 4 (by decide) | exact congrFun (f60 1 (by decide)) 4
        try have u60_5 : σ60 1 5 = σ40 1 5 := by first | exact o60 5 (by decide) | exact congrFun (f60 1 (by decide)) 5
        try have u60_6 : σ60 1 6 = σ40 1 6 := by first | exact o60 6 (by decide) | exact congrFun (f60 1 (by decide)) 6
        refine pe_aload_n d_K_beginCharacter_63 rfl ?_
        refine pe_iload_n d_K_beginCharacter_64 rfl ?_
        refine pe_sipush d_K_beginCharacter_65 ?_
        refine pe_icmp_ne (t := 77) d_K_beginCharacter_68 (by first | exact hB _ _ | exact hB0 _ _ | exact hBt _ _ | exact ⟨by omega, by omega⟩) (by first | exact hB _ _ | exact hB0 _ _ | exact hBt _ _ | exact ⟨by omega, by omega⟩) (fun h68 => ?_) (fun h68 => ?_)
        · skip
          refine pe_sipush d_K_beginCharacter_77 ?_
          refine pe_putiT f_K_49 g_1_5 d_K_beginCharacter_80 rfl rfl 5 rfl hB (by first | exact hB _ _ | exact hB0 _ _ | exact hBt _ _ | exact ⟨by omega, by omega⟩) (fun σ80 hB e80 o80 f80 => ?_)
          try have u80_0 : σ80 1 0 = σ60 1 0 := by first | exact o80 0 (by decide) | exact congrFun (f80 1 (by decide)) 0
          try have u80_1 : σ80 1 1 = σ60 1 1 := by first | exact o80 1 (by decide) | exact congrFun (f80 1 (by decide)) 1
          try have u80_2 : σ80 1 2 = σ60 1 2 := by first | exact o80 2 (by decide) | exact congrFun (f80 1 (by decide)) 2
          try have u80_3 : σ80 1 3 = σ60 1 3 := by first | exact o80 3 (by decide) | exact congrFun (f80 1 (by decide)) 3
          try have u80_4 : σ80 1 4 = σ60 1 4 := by first | exact o80 4 (by decide) | exact congrFun (f80 1 (by decide)) 4
          try have u80_5 : σ80 1 5 = σ60 1 5 := by first | exact o80 5 (by decide) | exact congrFun (f80 1 (by decide)) 5
          try have u80_6 : σ80 1 6 = σ60 1 6 := by first | exact o80 6 (by decide) | exact congrFun (f80 1 (by decide)) 6
          refine pe_rv d_K_beginCharacter_83 ?_
          exact ⟨hB, (fun b hb => (f80 b (by simp at hb ⊢; try omega)).trans ((f60 b (by simp at hb ⊢; try omega)).trans ((f40 b (by simp at hb ⊢; try omega)).trans ((f18 b (by simp at hb ⊢; try omega)).trans ((f2 b (by simp at hb ⊢; try omega)).trans (rfl)))))), by omega⟩
        · skip
          refine pe_sipush d_K_beginCharacter_71 ?_
          refine pe_goto (t := 80) d_K_beginCharacter_74 ?_
          refine pe_putiT f_K_49 g_1_5 d_K_beginCharacter_80 rfl rfl 5 rfl hB (by first | exact hB _ _ | exact hB0 _ _ | exact hBt _ _ | exact ⟨by omega, by omega⟩) (fun σ80 hB e80 o80 f80 => ?_)
          try have u80_0 : σ80 1 0 = σ60 1 0 := by first | exact o80 0 (by decide) | exact congrFun (f80 1 (by decide)) 0
          try have u80_1 : σ80 1 1 = σ60 1 1 := by first | exact o80 1 (by decide) | exact congrFun (f80 1 (by decide)) 1
          try have u80_2 : σ80 1 2 = σ60 1 2 := by first | exact o80 2 (by decide) | exact congrFun (f80 1 (by decide)) 2
          try have u80_3 : σ80 1 3 = σ60 1 3 := by first | exact o80 3 (by decide) | exact congrFun (f80 1 (by decide)) 3
          try have u80_4 : σ80 1 4 = σ60 1 4 := by first | exact o80 4 (by decide) | exact congrFun (f80 1 (by decide)) 4
          try have u80_5 : σ80 1 5 = σ60 1 5 := by first | exact o80 5 (by decide) | exact congrFun (f80 1 (by decide)) 5
          try have u80_6 : σ80 1 6 = σ60 1 6 := by first | exact o80 6 (by decide) | exact congrFun (f80 1 (by decide)) 6
          refine pe_rv d_K_beginCharacter_83 ?_
          exact ⟨hB, (fun b hb => (f80 b (by simp at hb ⊢; try omega)).trans ((f60 b (by simp at hb ⊢; try omega)).trans ((f40 b (by simp at hb ⊢; try omega)).trans ((f18 b (by simp at hb ⊢; try omega)).trans ((f2 b (by simp at hb ⊢; try omega)).trans (rfl)))))), by omega⟩
  · skip
    refine pe_iconst d_K_beginCharacter_13 ?_
    refine pe_goto (t := 18) d_K_beginCharacter_14 ?_
    refine pe_putiT f_K_56 g_1_3 d_K_beginCharacter_18 rfl rfl 3 rfl hB (by first | exact hB _ _ | exact hB0 _ _ | exact hBt _ _ | exact ⟨by omega, by omega⟩) (fun σ18 hB e18 o18 f18 => ?_)
    try have u18_0 : σ18 1 0 = σ2 1 0 := by first | exact o18 0 (by decide) | exact congrFun (f18 1 (by decide)) 0
    try have u18_1 : σ18 1 1 = σ2 1 1 := by first | exact o18 1 (by decide) | exact congrFun (f18 1 (by decide)) 1
    try have u18_2 : σ18 1 2 = σ2 1 2 := by first | exact o18 2 (by decide) | exact congrFun (f18 1 (by decide)) 2
    try have u18_3 : σ18 1 3 = σ2 1 3 := by first | exact o18 3 (by decide) | exact congrFun (f18 1 (by decide)) 3
    try have u18_4 : σ18 1 4 = σ2 1 4 := by first | exact o18 4 (by decide) | exact congrFun (f18 1 (by decide)) 4
    try have u18_5 : σ18 1 5 = σ2 1 5 := by first | exact o18 5 (by decide) | exact congrFun (f18 1 (by decide)) 5
    try have u18_6 : σ18 1 6 = σ2 1 6 := by first | exact o18 6 (by decide) | exact congrFun (f18 1 (by decide)) 6
    refine pe_aload_n d_K_beginCharacter_21 rfl ?_
    refine pe_iload_n d_K_beginCharacter_22 rfl ?_
    refine pe_sipush d_K_beginCharacter_23 ?_
    refine pe_icmp_ge (t := 36) d_K_beginCharacter_26 (by first | exact hB _ _ | exact hB0 _ _ | exact hBt _ _ | exact ⟨by omega, by omega⟩) (by first | exact hB _ _ | exact hB0 _ _ | exact hBt _ _ | exact ⟨by omega, by omega⟩) (fun h26 => ?_) (fun h26 => ?_)
    · skip
      refine pe_iload_n d_K_beginCharacter_36 rfl ?_
      refine pe_bipush d_K_beginCharacter_37 ?_
      refine pe_iand d_K_beginCharacter_39 (pe_and 4 16 (by omega) (by omega)) ?_
      refine pe_putiT f_K_59 g_1_2 d_K_beginCharacter_40 rfl rfl 2 rfl hB (by first | exact hB _ _ | exact hB0 _ _ | exact hBt _ _ | exact ⟨by omega, by omega⟩) (fun σ40 hB e40 o40 f40 => ?_)
      try have u40_0 : σ40 1 0 = σ18 1 0 := by first | exact o40 0 (by decide) | exact congrFun (f40 1 (by decide)) 0
      try have u40_1 : σ40 1 1 = σ18 1 1 := by first | exact o40 1 (by decide) | exact congrFun (f40 1 (by decide)) 1
      try have u40_2 : σ40 1 2 = σ18 1 2 := by first | exact o40 2 (by decide) | exact congrFun (f40 1 (by decide)) 2
      try have u40_3 : σ40 1 3 = σ18 1 3 := by first | exact o40 3 (by decide) | exact congrFun (f40 1 (by decide)) 3
      try have u40_4 : σ40 1 4 = σ18 1 4 := by first | exact o40 4 (by decide) | exact congrFun (f40 1 (by decide)) 4
      try have u40_5 : σ40 1 5 = σ18 1 5 := by first | exact o40 5 (by decide) | exact congrFun (f40 1 (by decide)) 5
      try have u40_6 : σ40 1 6 = σ18 1 6 := by first | exact o40 6 (by decide) | exact congrFun (f40 1 (by decide)) 6
      refine pe_aload_n d_K_beginCharacter_43 rfl ?_
      refine pe_iload_n d_K_beginCharacter_44 rfl ?_
      refine pe_sipush d_K_beginCharacter_45 ?_
      refine pe_icmp_ne (t := 57) d_K_beginCharacter_48 (by first | exact hB _ _ | exact hB0 _ _ | exact hBt _ _ | exact ⟨by omega, by omega⟩) (by first | exact hB _ _ | exact hB0 _ _ | exact hBt _ _ | exact ⟨by omega, by omega⟩) (fun h48 => ?_) (fun h48 => ?_)
      · skip
        refine pe_sipush d_K_beginCharacter_57 ?_
        refine pe_putiT f_K_46 g_1_4 d_K_beginCharacter_60 rfl rfl 4 rfl hB (by first | exact hB _ _ | exact hB0 _ _ | exact hBt _ _ | exact ⟨by omega, by omega⟩) (fun σ60 hB e60 o60 f60 => ?_)
        try have u60_0 : σ60 1 0 = σ40 1 0 := by first | exact o60 0 (by decide) | exact congrFun (f60 1 (by decide)) 0
        try have u60_1 : σ60 1 1 = σ40 1 1 := by first | exact o60 1 (by decide) | exact congrFun (f60 1 (by decide)) 1
        try have u60_2 : σ60 1 2 = σ40 1 2 := by first | exact o60 2 (by decide) | exact congrFun (f60 1 (by decide)) 2
        try have u60_3 : σ60 1 3 = σ40 1 3 := by first | exact o60 3 (by decide) | exact congrFun (f60 1 (by decide)) 3
        try have u60_4 : σ60 1 4 = σ40 1 4 := by first | exact o60 4 (by decide) | exact congrFun (f60 1 (by decide)) 4
        try have u60_5 : σ60 1 5 = σ40 1 5 := by first | exact o60 5 (by decide) | exact congrFun (f60 1 (by decide)) 5
        try have u60_6 : σ60 1 6 = σ40 1 6 := by first | exact o60 6 (by decide) | exact congrFun (f60 1 (by decide)) 6
        refine pe_aload_n d_K_beginCharacter_63 rfl ?_
        refine pe_iload_n d_K_beginCharacter_64 rfl ?_
        refine pe_sipush d_K_beginCharacter_65 ?_
        refine pe_icmp_ne (t := 77) d_K_beginCharacter_68 (by first | exact hB _ _ | exact hB0 _ _ | exact hBt _ _ | exact ⟨by omega, by omega⟩) (by first | exact hB _ _ | exact hB0 _ _ | exact hBt _ _ | exact ⟨by omega, by omega⟩) (fun h68 => ?_) (fun h68 => ?_)
        · skip
          refine pe_sipush d_K_beginCharacter_77 ?_
          refine pe_putiT f_K_49 g_1_5 d_K_beginCharacter_80 rfl rfl 5 rfl hB (by first | exact hB _ _ | exact hB0 _ _ | exact hBt _ _ | exact ⟨by omega, by omega⟩) (fun σ80 hB e80 o80 f80 => ?_)
          try have u80_0 : σ80 1 0 = σ60 1 0 := by first | exact o80 0 (by decide) | exact congrFun (f80 1 (by decide)) 0
          try have u80_1 : σ80 1 1 = σ60 1 1 := by first | exact o80 1 (by decide) | exact congrFun (f80 1 (by decide)) 1
          try have u80_2 : σ80 1 2 = σ60 1 2 := by first | exact o80 2 (by decide) | exact congrFun (f80 1 (by decide)) 2
          try have u80_3 : σ80 1 3 = σ60 1 3 := by first | exact o80 3 (by decide) | exact congrFun (f80 1 (by decide)) 3
          try have u80_4 : σ80 1 4 = σ60 1 4 := by first | exact o80 4 (by decide) | exact congrFun (f80 1 (by decide)) 4
          try have u80_5 : σ80 1 5 = σ60 1 5 := by first | exact o80 5 (by decide) | exact congrFun (f80 1 (by decide)) 5
          try have u80_6 : σ80 1 6 = σ60 1 6 := by first | exact o80 6 (by decide) | exact congrFun (f80 1 (by decide)) 6
          refine pe_rv d_K_beginCharacter_83 ?_
          exact ⟨hB, (fun b hb => (f80 b (by simp at hb ⊢; try omega)).trans ((f60 b (by simp at hb ⊢; try omega)).trans ((f40 b (by simp at hb ⊢; try omega)).trans ((f18 b (by simp at hb ⊢; try omega)).trans ((f2 b (by simp at hb ⊢; try omega)).trans (rfl)))))), by omega⟩
        · skip
          refine pe_sipush d_K_beginCharacter_71 ?_
          refine pe_goto (t := 80) d_K_beginCharacter_74 ?_
          refine pe_putiT f_K_49 g_1_5 d_K_beginCharacter_80 rfl rfl 5 rfl hB (by first | exact hB _ _ | exact hB0 _ _ | exact hBt _ _ | exact ⟨by omega, by omega⟩) (fun σ80 hB e80 o80 f80 => ?_)
          try have u80_0 : σ80 1 0 = σ60 1 0 := by first | exact o80 0 (by decide) | exact congrFun (f80 1 (by decide)) 0
          try have u80_1 : σ80 1 1 = σ60 1 1 := by first | exact o80 1 (by decide) | exact congrFun (f80 1 (by decide)) 1
          try have u80_2 : σ80 1 2 = σ60 1 2 := by first | exact o80 2 (by decide) | exact congrFun (f80 1 (by decide)) 2
          try have u80_3 : σ80 1 3 = σ60 1 3 := by first | exact o80 3 (by decide) | exact congrFun (f80 1 (by decide)) 3
          try have u80_4 : σ80 1 4 = σ60 1 4 := by first | exact o80 4 (by decide) | exact congrFun (f80 1 (by decide)) 4
          try have u80_5 : σ80 1 5 = σ60 1 5 := by first | exact o80 5 (by decide) | exact congrFun (f80 1 (by decide)) 5
          try have u80_6 : σ80 1 6 = σ60 1 6 := by first | exact o80 6 (by decide) | exact congrFun (f80 1 (by decide)) 6
          refine pe_rv d_K_beginCharacter_83 ?_
          exact ⟨hB, (fun b hb => (f80 b (by simp at hb ⊢; try omega)).trans ((f60 b (by simp at hb ⊢; try omega)).trans ((f40 b (by simp at hb ⊢; try omega)).trans ((f18 b (by simp at hb ⊢; try omega)).trans ((f2 b (by simp at hb ⊢; try omega)).trans (rfl)))))), by omega⟩
      · skip
        refine pe_sipush d_K_beginCharacter_51 ?_
        refine pe_goto (t := 60) d_K_beginCharacter_54 ?_
        refine pe_putiT f_K_46 g_1_4 d_K_beginCharacter_60 rfl rfl 4 rfl hB (by first | exact hB _ _ | exact hB0 _ _ | exact hBt _ _ | exact ⟨by omega, by omega⟩) (fun σ60 hB e60 o60 f60 => ?_)
        try have u60_0 : σ60 1 0 = σ40 1 0 := by first | exact o60 0 (by decide) | exact congrFun (f60 1 (by decide)) 0
        try have u60_1 : σ60 1 1 = σ40 1 1 := by first | exact o60 1 (by decide) | exact congrFun (f60 1 (by decide)) 1
        try have u60_2 : σ60 1 2 = σ40 1 2 := by first | exact o60 2 (by decide) | exact congrFun (f60 1 (by decide)) 2
        try have u60_3 : σ60 1 3 = σ40 1 3 := by first | exact o60 3 (by decide) | exact congrFun (f60 1 (by decide)) 3
        try have u60_4 : σ60 1 4 = σ40 1 4 := by first | exact o60 4 (by decide) | exact congrFun (f60 1 (by decide)) 4
        try have u60_5 : σ60 1 5 = σ40 1 5 := by first | exact o60 5 (by decide) | exact congrFun (f60 1 (by decide)) 5
        try have u60_6 : σ60 1 6 = σ40 1 6 := by first | exact o60 6 (by decide) | exact congrFun (f60 1 (by decide)) 6
        refine pe_aload_n d_K_beginCharacter_63 rfl ?_
        refine pe_iload_n d_K_beginCharacter_64 rfl ?_
        refine pe_sipush d_K_beginCharacter_65 ?_
        refine pe_icmp_ne (t := 77) d_K_beginCharacter_68 (by first | exact hB _ _ | exact hB0 _ _ | exact hBt _ _ | exact ⟨by omega, by omega⟩) (by first | exact hB _ _ | exact hB0 _ _ | exact hBt _ _ | exact ⟨by omega, by omega⟩) (fun h68 => ?_) (fun h68 => ?_)
        · skip
          refine pe_sipush d_K_beginCharacter_77 ?_
          refine pe_putiT f_K_49 g_1_5 d_K_beginCharacter_80 rfl rfl 5 rfl hB (by first | exact hB _ _ | exact hB0 _ _ | exact hBt _ _ | exact ⟨by omega, by omega⟩) (fun σ80 hB e80 o80 f80 => ?_)
          try have u80_0 : σ80 1 0 = σ60 1 0 := by first | exact o80 0 (by decide) | exact congrFun (f80 1 (by decide)) 0
          try have u80_1 : σ80 1 1 = σ60 1 1 := by first | exact o80 1 (by decide) | exact congrFun (f80 1 (by decide)) 1
          try have u80_2 : σ80 1 2 = σ60 1 2 := by first | exact o80 2 (by decide) | exact congrFun (f80 1 (by decide)) 2
          try have u80_3 : σ80 1 3 = σ60 1 3 := by first | exact o80 3 (by decide) | exact congrFun (f80 1 (by decide)) 3
          try have u80_4 : σ80 1 4 = σ60 1 4 := by first | exact o80 4 (by decide) | exact congrFun (f80 1 (by decide)) 4
          try have u80_5 : σ80 1 5 = σ60 1 5 := by first | exact o80 5 (by decide) | exact congrFun (f80 1 (by decide)) 5
          try have u80_6 : σ80 1 6 = σ60 1 6 := by first | exact o80 6 (by decide) | exact congrFun (f80 1 (by decide)) 6
          refine pe_rv d_K_beginCharacter_83 ?_
          exact ⟨hB, (fun b hb => (f80 b (by simp at hb ⊢; try omega)).trans ((f60 b (by simp at hb ⊢; try omega)).trans ((f40 b (by simp at hb ⊢; try omega)).trans ((f18 b (by simp at hb ⊢; try omega)).trans ((f2 b (by simp at hb ⊢; try omega)).trans (rfl)))))), by omega⟩
        · skip
          refine pe_sipush d_K_beginCharacter_71 ?_
          refine pe_goto (t := 80) d_K_beginCharacter_74 ?_
          refine pe_putiT f_K_49 g_1_5 d_K_beginCharacter_80 rfl rfl 5 rfl hB (by first | exact hB _ _ | exact hB0 _ _ | exact hBt _ _ | exact ⟨by omega, by omega⟩) (fun σ80 hB e80 o80 f80 => ?_)
          try have u80_0 : σ80 1 0 = σ60 1 0 := by first | exact o80 0 (by decide) | exact congrFun (f80 1 (by decide)) 0
          try have u80_1 : σ80 1 1 = σ60 1 1 := by first | exact o80 1 (by decide) | exact congrFun (f80 1 (by decide)) 1
          try have u80_2 : σ80 1 2 = σ60 1 2 := by first | exact o80 2 (by decide) | exact congrFun (f80 1 (by decide)) 2
          try have u80_3 : σ80 1 3 = σ60 1 3 := by first | exact o80 3 (by decide) | exact congrFun (f80 1 (by decide)) 3
          try have u80_4 : σ80 1 4 = σ60 1 4 := by first | exact o80 4 (by decide) | exact congrFun (f80 1 (by decide)) 4
          try have u80_5 : σ80 1 5 = σ60 1 5 := by first | exact o80 5 (by decide) | exact congrFun (f80 1 (by decide)) 5
          try have u80_6 : σ80 1 6 = σ60 1 6 := by first | exact o80 6 (by decide) | exact congrFun (f80 1 (by decide)) 6
          refine pe_rv d_K_beginCharacter_83 ?_
          exact ⟨hB, (fun b hb => (f80 b (by simp at hb ⊢; try omega)).trans ((f60 b (by simp at hb ⊢; try omega)).trans ((f40 b (by simp at hb ⊢; try omega)).trans ((f18 b (by simp at hb ⊢; try omega)).trans ((f2 b (by simp at hb ⊢; try omega)).trans (rfl)))))), by omega⟩
    · skip
      refine pe_iload_n d_K_beginCharacter_29 rfl ?_
      refine pe_bipush d_K_beginCharacter_30 ?_
      refine pe_iand d_K_beginCharacter_32 (pe_and 5 32 (by omega) (by omega)) ?_
      refine pe_goto (t := 40) d_K_beginCharacter_33 ?_
      refine pe_putiT f_K_59 g_1_2 d_K_beginCharacter_40 rfl rfl 2 rfl hB (by first | exact hB _ _ | exact hB0 _ _ | exact hBt _ _ | exact ⟨by omega, by omega⟩) (fun σ40 hB e40 o40 f40 => ?_)
      try have u40_0 : σ40 1 0 = σ18 1 0 := by first | exact o40 0 (by decide) | exact congrFun (f40 1 (by decide)) 0
      try have u40_1 : σ40 1 1 = σ18 1 1 := by first | exact o40 1 (by decide) | exact congrFun (f40 1 (by decide)) 1
      try have u40_2 : σ40 1 2 = σ18 1 2 := by first | exact o40 2 (by decide) | exact congrFun (f40 1 (by decide)) 2
      try have u40_3 : σ40 1 3 = σ18 1 3 := by first | exact o40 3 (by decide) | exact congrFun (f40 1 (by decide)) 3
      try have u40_4 : σ40 1 4 = σ18 1 4 := by first | exact o40 4 (by decide) | exact congrFun (f40 1 (by decide)) 4
      try have u40_5 : σ40 1 5 = σ18 1 5 := by first | exact o40 5 (by decide) | exact congrFun (f40 1 (by decide)) 5
      try have u40_6 : σ40 1 6 = σ18 1 6 := by first | exact o40 6 (by decide) | exact congrFun (f40 1 (by decide)) 6
      refine pe_aload_n d_K_beginCharacter_43 rfl ?_
      refine pe_iload_n d_K_beginCharacter_44 rfl ?_
      refine pe_sipush d_K_beginCharacter_45 ?_
      refine pe_icmp_ne (t := 57) d_K_beginCharacter_48 (by first | exact hB _ _ | exact hB0 _ _ | exact hBt _ _ | exact ⟨by omega, by omega⟩) (by first | exact hB _ _ | exact hB0 _ _ | exact hBt _ _ | exact ⟨by omega, by omega⟩) (fun h48 => ?_) (fun h48 => ?_)
      · skip
        refine pe_sipush d_K_beginCharacter_57 ?_
        refine pe_putiT f_K_46 g_1_4 d_K_beginCharacter_60 rfl rfl 4 rfl hB (by first | exact hB _ _ | exact hB0 _ _ | exact hBt _ _ | exact ⟨by omega, by omega⟩) (fun σ60 hB e60 o60 f60 => ?_)
        try have u60_0 : σ60 1 0 = σ40 1 0 := by first | exact o60 0 (by decide) | exact congrFun (f60 1 (by decide)) 0
        try have u60_1 : σ60 1 1 = σ40 1 1 := by first | exact o60 1 (by decide) | exact congrFun (f60 1 (by decide)) 1
        try have u60_2 : σ60 1 2 = σ40 1 2 := by first | exact o60 2 (by decide) | exact congrFun (f60 1 (by decide)) 2
        try have u60_3 : σ60 1 3 = σ40 1 3 := by first | exact o60 3 (by decide) | exact congrFun (f60 1 (by decide)) 3
        try have u60_4 : σ60 1 4 = σ40 1 4 := by first | exact o60 4 (by decide) | exact congrFun (f60 1 (by decide)) 4
        try have u60_5 : σ60 1 5 = σ40 1 5 := by first | exact o60 5 (by decide) | exact congrFun (f60 1 (by decide)) 5
        try have u60_6 : σ60 1 6 = σ40 1 6 := by first | exact o60 6 (by decide) | exact congrFun (f60 1 (by decide)) 6
        refine pe_aload_n d_K_beginCharacter_63 rfl ?_
        refine pe_iload_n d_K_beginCharacter_64 rfl ?_
        refine pe_sipush d_K_beginCharacter_65 ?_
        refine pe_icmp_ne (t := 77) d_K_beginCharacter_68 (by first | exact hB _ _ | exact hB0 _ _ | exact hBt _ _ | exact ⟨by omega, by omega⟩) (by first | exact hB _ _ | exact hB0 _ _ | exact hBt _ _ | exact ⟨by omega, by omega⟩) (fun h68 => ?_) (fun h68 => ?_)
        · skip
          refine pe_sipush d_K_beginCharacter_77 ?_
          refine pe_putiT f_K_49 g_1_5 d_K_beginCharacter_80 rfl rfl 5 rfl hB (by first | exact hB _ _ | exact hB0 _ _ | exact hBt _ _ | exact ⟨by omega, by omega⟩) (fun σ80 hB e80 o80 f80 => ?_)
          try have u80_0 : σ80 1 0 = σ60 1 0 := by first | exact o80 0 (by decide) | exact congrFun (f80 1 (by decide)) 0
          try have u80_1 : σ80 1 1 = σ60 1 1 := by first | exact o80 1 (by decide) | exact congrFun (f80 1 (by decide)) 1
          try have u80_2 : σ80 1 2 = σ60 1 2 := by first | exact o80 2 (by decide) | exact congrFun (f80 1 (by decide)) 2
          try have u80_3 : σ80 1 3 = σ60 1 3 := by first | exact o80 3 (by decide) | exact congrFun (f80 1 (by decide)) 3
          try have u80_4 : σ80 1 4 = σ60 1 4 := by first | exact o80 4 (by decide) | exact congrFun (f80 1 (by decide)) 4
          try have u80_5 : σ80 1 5 = σ60 1 5 := by first | exact o80 5 (by decide) | exact congrFun (f80 1 (by decide)) 5
          try have u80_6 : σ80 1 6 = σ60 1 6 := by first | exact o80 6 (by decide) | exact congrFun (f80 1 (by decide)) 6
          refine pe_rv d_K_beginCharacter_83 ?_
          exact ⟨hB, (fun b hb => (f80 b (by simp at hb ⊢; try omega)).trans ((f60 b (by simp at hb ⊢; try omega)).trans ((f40 b (by simp at hb ⊢; try omega)).trans ((f18 b (by simp at hb ⊢; try omega)).trans ((f2 b (by simp at hb ⊢; try omega)).trans (rfl)))))), by omega⟩
        · skip
          refine pe_sipush d_K_beginCharacter_71 ?_
          refine pe_goto (t := 80) d_K_beginCharacter_74 ?_
          refine pe_putiT f_K_49 g_1_5 d_K_beginCharacter_80 rfl rfl 5 rfl hB (by first | exact hB _ _ | exact hB0 _ _ | exact hBt _ _ | exact ⟨by omega, by omega⟩) (fun σ80 hB e80 o80 f80 => ?_)
          try have u80_0 : σ80 1 0 = σ60 1 0 := by first | exact o80 0 (by decide) | exact congrFun (f80 1 (by decide)) 0
          try have u80_1 : σ80 1 1 = σ60 1 1 := by first | exact o80 1 (by decide) | exact congrFun (f80 1 (by decide)) 1
          try have u80_2 : σ80 1 2 = σ60 1 2 := by first | exact o80 2 (by decide) | exact congrFun (f80 1 (by decide)) 2
          try have u80_3 : σ80 1 3 = σ60 1 3 := by first | exact o80 3 (by decide) | exact congrFun (f80 1 (by decide)) 3
          try have u80_4 : σ80 1 4 = σ60 1 4 := by first | exact o80 4 (by decide) | exact congrFun (f80 1 (by decide)) 4
          try have u80_5 : σ80 1 5 = σ60 1 5 := by first | exact o80 5 (by decide) | exact congrFun (f80 1 (by decide)) 5
          try have u80_6 : σ80 1 6 = σ60 1 6 := by first | exact o80 6 (by decide) | exact congrFun (f80 1 (by decide)) 6
          refine pe_rv d_K_beginCharacter_83 ?_
          exact ⟨hB, (fun b hb => (f80 b (by simp at hb ⊢; try omega)).trans ((f60 b (by simp at hb ⊢; try omega)).trans ((f40 b (by simp at hb ⊢; try omega)).trans ((f18 b (by simp at hb ⊢; try omega)).trans ((f2 b (by simp at hb ⊢; try omega)).trans (rfl)))))), by omega⟩
      · skip
        refine pe_sipush d_K_beginCharacter_51 ?_
        refine pe_goto (t := 60) d_K_beginCharacter_54 ?_
        refine pe_putiT f_K_46 g_1_4 d_K_beginCharacter_60 rfl rfl 4 rfl hB (by first | exact hB _ _ | exact hB0 _ _ | exact hBt _ _ | exact ⟨by omega, by omega⟩) (fun σ60 hB e60 o60 f60 => ?_)
        try have u60_0 : σ60 1 0 = σ40 1 0 := by first | exact o60 0 (by decide) | exact congrFun (f60 1 (by decide)) 0
        try have u60_1 : σ60 1 1 = σ40 1 1 := by first | exact o60 1 (by decide) | exact congrFun (f60 1 (by decide)) 1
        try have u60_2 : σ60 1 2 = σ40 1 2 := by first | exact o60 2 (by decide) | exact congrFun (f60 1 (by decide)) 2
        try have u60_3 : σ60 1 3 = σ40 1 3 := by first | exact o60 3 (by decide) | exact congrFun (f60 1 (by decide)) 3
        try have u60_4 : σ60 1 4 = σ40 1 4 := by first | exact o60 4 (by decide) | exact congrFun (f60 1 (by decide)) 4
        try have u60_5 : σ60 1 5 = σ40 1 5 := by first | exact o60 5 (by decide) | exact congrFun (f60 1 (by decide)) 5
        try have u60_6 : σ60 1 6 = σ40 1 6 := by first | exact o60 6 (by decide) | exact congrFun (f60 1 (by decide)) 6
        refine pe_aload_n d_K_beginCharacter_63 rfl ?_
        refine pe_iload_n d_K_beginCharacter_64 rfl ?_
        refine pe_sipush d_K_beginCharacter_65 ?_
        refine pe_icmp_ne (t := 77) d_K_beginCharacter_68 (by first | exact hB _ _ | exact hB0 _ _ | exact hBt _ _ | exact ⟨by omega, by omega⟩) (by first | exact hB _ _ | exact hB0 _ _ | exact hBt _ _ | exact ⟨by omega, by omega⟩) (fun h68 => ?_) (fun h68 => ?_)
        · skip
          refine pe_sipush d_K_beginCharacter_77 ?_
          refine pe_putiT f_K_49 g_1_5 d_K_beginCharacter_80 rfl rfl 5 rfl hB (by first | exact hB _ _ | exact hB0 _ _ | exact hBt _ _ | exact ⟨by omega, by omega⟩) (fun σ80 hB e80 o80 f80 => ?_)
          try have u80_0 : σ80 1 0 = σ60 1 0 := by first | exact o80 0 (by decide) | exact congrFun (f80 1 (by decide)) 0
          try have u80_1 : σ80 1 1 = σ60 1 1 := by first | exact o80 1 (by decide) | exact congrFun (f80 1 (by decide)) 1
          try have u80_2 : σ80 1 2 = σ60 1 2 := by first | exact o80 2 (by decide) | exact congrFun (f80 1 (by decide)) 2
          try have u80_3 : σ80 1 3 = σ60 1 3 := by first | exact o80 3 (by decide) | exact congrFun (f80 1 (by decide)) 3
          try have u80_4 : σ80 1 4 = σ60 1 4 := by first | exact o80 4 (by decide) | exact congrFun (f80 1 (by decide)) 4
          try have u80_5 : σ80 1 5 = σ60 1 5 := by first | exact o80 5 (by decide) | exact congrFun (f80 1 (by decide)) 5
          try have u80_6 : σ80 1 6 = σ60 1 6 := by first | exact o80 6 (by decide) | exact congrFun (f80 1 (by decide)) 6
          refine pe_rv d_K_beginCharacter_83 ?_
          exact ⟨hB, (fun b hb => (f80 b (by simp at hb ⊢; try omega)).trans ((f60 b (by simp at hb ⊢; try omega)).trans ((f40 b (by simp at hb ⊢; try omega)).trans ((f18 b (by simp at hb ⊢; try omega)).trans ((f2 b (by simp at hb ⊢; try omega)).trans (rfl)))))), by omega⟩
        · skip
          refine pe_sipush d_K_beginCharacter_71 ?_
          refine pe_goto (t := 80) d_K_beginCharacter_74 ?_
          refine pe_putiT f_K_49 g_1_5 d_K_beginCharacter_80 rfl rfl 5 rfl hB (by first | exact hB _ _ | exact hB0 _ _ | exact hBt _ _ | exact ⟨by omega, by omega⟩) (fun σ80 hB e80 o80 f80 => ?_)
          try have u80_0 : σ80 1 0 = σ60 1 0 := by first | exact o80 0 (by decide) | exact congrFun (f80 1 (by decide)) 0
          try have u80_1 : σ80 1 1 = σ60 1 1 := by first | exact o80 1 (by decide) | exact congrFun (f80 1 (by decide)) 1
          try have u80_2 : σ80 1 2 = σ60 1 2 := by first | exact o80 2 (by decide) | exact congrFun (f80 1 (by decide)) 2
          try have u80_3 : σ80 1 3 = σ60 1 3 := by first | exact o80 3 (by decide) | exact congrFun (f80 1 (by decide)) 3
          try have u80_4 : σ80 1 4 = σ60 1 4 := by first | exact o80 4 (by decide) | exact congrFun (f80 1 (by decide)) 4
          try have u80_5 : σ80 1 5 = σ60 1 5 := by first | exact o80 5 (by decide) | exact congrFun (f80 1 (by decide)) 5
          try have u80_6 : σ80 1 6 = σ60 1 6 := by first | exact o80 6 (by decide) | exact congrFun (f80 1 (by decide)) 6
          refine pe_rv d_K_beginCharacter_83 ?_
          exact ⟨hB, (fun b hb => (f80 b (by simp at hb ⊢; try omega)).trans ((f60 b (by simp at hb ⊢; try omega)).trans ((f40 b (by simp at hb ⊢; try omega)).trans ((f18 b (by simp at hb ⊢; try omega)).trans ((f2 b (by simp at hb ⊢; try omega)).trans (rfl)))))), by omega⟩
theorem x_K_takePlain {σ : pe_H} {t : Int} (hB : pe_B σ) (ht : 0 ≤ t ∧ t ≤ 255) (hm : σ 1 0 = 0) : pe_M m_K_takePlain [pe_r 1, pe_i t] σ (pe_qi (fun z σ' => pe_B σ' ∧ (∀ b, b ∉ [1] → σ' b = σ b) ∧ (z = (if σ 1 0 = 1 then -1 else if σ 1 0 = 2 then (if (48 ≤ t ∧ t ≤ 57) then -1 else if t = 65 then 65536 else if t = 66 then 65537 else if t = 67 then 65538 else if t = 68 then 65539 else if t = 72 then 65540 else if t = 70 then 65541 else if t = 126 then (if σ 1 1 = 3 then 65542 else if σ 1 1 = 200 then 65543 else if σ 1 1 = 201 then 65544 else -1) else -1) else if σ 1 0 = 3 then (if 1 < σ 1 3 ∨ σ 1 2 * 64 + t % 64 < 160 then -1 else σ 1 2 * 64 + t % 64) else (if t = 27 ∨ (194 ≤ t ∧ t ≤ 239) then -1 else if 128 ≤ t then 65533 else if t = 10 ∧ σ 1 6 = 13 then -1 else t))) ∧ σ' 1 6 = σ 1 6 ∧ (σ' 1 0 = (if σ 1 0 = 1 then 2 else if σ 1 0 = 2 then (if (48 ≤ t ∧ t ≤ 57) then 2 else 0) else if σ 1 0 = 3 then (if 1 < σ 1 3 then 3 else 0) else if t = 27 then 1 else if (194 ≤ t ∧ t ≤ 239) then 3 else 0)) ∧ (σ' 1 1 = (if σ 1 0 = 1 then 0 else if σ 1 0 = 2 ∧ (48 ≤ t ∧ t ≤ 57) then (if 9999 ≤ 10 * σ 1 1 + t - 48 then 9999 else 10 * σ 1 1 + t - 48) else σ 1 1)) ∧ (σ' 1 2 = (if σ 1 0 = 3 then σ 1 2 * 64 + t % 64 else if σ 1 0 = 0 ∧ (194 ≤ t ∧ t ≤ 239) then (if t < 224 then t % 32 else t % 16) else σ 1 2)) ∧ (σ' 1 3 = (if σ 1 0 = 3 then σ 1 3 - 1 else if σ 1 0 = 0 ∧ (194 ≤ t ∧ t ≤ 239) then (if t < 224 then 1 else 2) else σ 1 3)) ∧ (σ' 1 4 = (if σ 1 0 = 3 then 128 else if σ 1 0 = 0 ∧ (194 ≤ t ∧ t ≤ 239) then (if t = 224 then 160 else 128) else σ 1 4)) ∧ (σ' 1 5 = (if σ 1 0 = 3 then 191 else if σ 1 0 = 0 ∧ (194 ≤ t ∧ t ≤ 239) then (if t = 237 then 159 else 191) else σ 1 5)))) := by
  refine pe_in0 (lv := [some (pe_r 1), some (pe_i t)]) ?_
  have hB0 := hB
  refine pe_iload_n d_K_takePlain_0 rfl ?_
  refine pe_bipush d_K_takePlain_1 ?_
  refine pe_icmp_ne (t := 13) d_K_takePlain_3 (by first | exact hB _ _ | exact hB0 _ _ | exact hBt _ _ | exact ⟨by omega, by omega⟩) (by first | exact hB _ _ | exact hB0 _ _ | exact hBt _ _ | exact ⟨by omega, by omega⟩) (fun h3 => ?_) (fun h3 => ?_)
  · skip
    refine pe_iload_n d_K_takePlain_13 rfl ?_
    refine pe_sipush d_K_takePlain_14 ?_
    refine pe_icmp_lt (t := 34) d_K_takePlain_17 (by first | exact hB _ _ | exact hB0 _ _ | exact hBt _ _ | exact ⟨by omega, by omega⟩) (by first | exact hB _ _ | exact hB0 _ _ | exact hBt _ _ | exact ⟨by omega, by omega⟩) (fun h17 => ?_) (fun h17 => ?_)
    · skip
      refine pe_iload_n d_K_takePlain_34 rfl ?_
      refine pe_sipush d_K_takePlain_35 ?_
      refine pe_icmp_lt (t := 44) d_K_takePlain_38 (by first | exact hB _ _ | exact hB0 _ _ | exact hBt _ _ | exact ⟨by omega, by omega⟩) (by first | exact hB _ _ | exact hB0 _ _ | exact hBt _ _ | exact ⟨by omega, by omega⟩) (fun h38 => ?_) (fun h38 => ?_)
      · skip
        refine pe_iload_n d_K_takePlain_44 rfl ?_
        refine pe_bipush d_K_takePlain_45 ?_
        refine pe_icmp_ne (t := 63) d_K_takePlain_47 (by first | exact hB _ _ | exact hB0 _ _ | exact hBt _ _ | exact ⟨by omega, by omega⟩) (by first | exact hB _ _ | exact hB0 _ _ | exact hBt _ _ | exact ⟨by omega, by omega⟩) (fun h47 => ?_) (fun h47 => ?_)
        · skip
          refine pe_iload_n d_K_takePlain_63 rfl ?_
          refine pe_ri d_K_takePlain_64 ?_
          exact ⟨hB, (fun b hb => rfl), by (try dsimp only); omega⟩
        · skip
          refine pe_aload_n d_K_takePlain_50 rfl ?_
          refine pe_geti f_K_15 d_K_takePlain_51 rfl rfl 6 rfl ?_
          refine pe_bipush d_K_takePlain_54 ?_
          refine pe_icmp_ne (t := 63) d_K_takePlain_56 (by first | exact hB _ _ | exact hB0 _ _ | exact hBt _ _ | exact ⟨by omega, by omega⟩) (by first | exact hB _ _ | exact hB0 _ _ | exact hBt _ _ | exact ⟨by omega, by omega⟩) (fun h56 => ?_) (fun h56 => ?_)
          · skip
            refine pe_iload_n d_K_takePlain_63 rfl ?_
            refine pe_ri d_K_takePlain_64 ?_
            exact ⟨hB, (fun b hb => rfl), by (try dsimp only); omega⟩
          · skip
            refine pe_iconst d_K_takePlain_59 ?_
            refine pe_goto (t := 64) d_K_takePlain_60 ?_
            refine pe_ri d_K_takePlain_64 ?_
            exact ⟨hB, (fun b hb => rfl), by (try dsimp only); omega⟩
      · skip
        refine pe_ldc q_K_26 d_K_takePlain_41 (z := 65533) rfl ?_
        refine pe_ri d_K_takePlain_43 ?_
        exact ⟨hB, (fun b hb => rfl), by (try dsimp only); omega⟩
    · skip
      refine pe_iload_n d_K_takePlain_20 rfl ?_
      refine pe_sipush d_K_takePlain_21 ?_
      refine pe_icmp_gt (t := 34) d_K_takePlain_24 (by first | exact hB _ _ | exact hB0 _ _ | exact hBt _ _ | exact ⟨by omega, by omega⟩) (by first | exact hB _ _ | exact hB0 _ _ | exact hBt _ _ | exact ⟨by omega, by omega⟩) (fun h24 => ?_) (fun h24 => ?_)
      · skip
        refine pe_iload_n d_K_takePlain_34 rfl ?_
        refine pe_sipush d_K_takePlain_35 ?_
        refine pe_icmp_lt (t := 44) d_K_takePlain_38 (by first | exact hB _ _ | exact hB0 _ _ | exact hBt _ _ | exact ⟨by omega, by omega⟩) (by first | exact hB _ _ | exact hB0 _ _ | exact hBt _ _ | exact ⟨by omega, by omega⟩) (fun h38 => ?_) (fun h38 => ?_)
        · skip
          refine pe_iload_n d_K_takePlain_44 rfl ?_
          refine pe_bipush d_K_takePlain_45 ?_
          refine pe_icmp_ne (t := 63) d_K_takePlain_47 (by first | exact hB _ _ | exact hB0 _ _ | exact hBt _ _ | exact ⟨by omega, by omega⟩) (by first | exact hB _ _ | exact hB0 _ _ | exact hBt _ _ | exact ⟨by omega, by omega⟩) (fun h47 => ?_) (fun h47 => ?_)
          · skip
            refine pe_iload_n d_K_takePlain_63 rfl ?_
            refine pe_ri d_K_takePlain_64 ?_
            exact ⟨hB, (fun b hb => rfl), by (try dsimp only); omega⟩
          · skip
            refine pe_aload_n d_K_takePlain_50 rfl ?_
            refine pe_geti f_K_15 d_K_takePlain_51 rfl rfl 6 rfl ?_
            refine pe_bipush d_K_takePlain_54 ?_
            refine pe_icmp_ne (t := 63) d_K_takePlain_56 (by first | exact hB _ _ | exact hB0 _ _ | exact hBt _ _ | exact ⟨by omega, by omega⟩) (by first | exact hB _ _ | exact hB0 _ _ | exact hBt _ _ | exact ⟨by omega, by omega⟩) (fun h56 => ?_) (fun h56 => ?_)
            · skip
              refine pe_iload_n d_K_takePlain_63 rfl ?_
              refine pe_ri d_K_takePlain_64 ?_
              exact ⟨hB, (fun b hb => rfl), by (try dsimp only); omega⟩
            · skip
              refine pe_iconst d_K_takePlain_59 ?_
              refine pe_goto (t := 64) d_K_takePlain_60 ?_
              refine pe_ri d_K_takePlain_64 ?_
              exact ⟨hB, (fun b hb => rfl), by (try dsimp only); omega⟩
        · skip
          refine pe_ldc q_K_26 d_K_takePlain_41 (z := 65533) rfl ?_
          refine pe_ri d_K_takePlain_43 ?_
          exact ⟨hB, (fun b hb => rfl), by (try dsimp only); omega⟩
      · skip
        refine pe_aload_n d_K_takePlain_27 rfl ?_
        refine pe_iload_n d_K_takePlain_28 rfl ?_
        refine pe_v1v d_K_takePlain_29 c_K_52 i_K_beginCharacter s_K_beginCharacter rfl rfl (x_K_beginCharacter hB (by omega)) (fun σ29 hz29 => ?_)
        obtain ⟨hB, f29, x29⟩ := hz29
        try have u29_0 : σ29 1 0 = σ 1 0 := by first | exact o29 0 (by decide) | exact congrFun (f29 1 (by decide)) 0
        try have u29_1 : σ29 1 1 = σ 1 1 := by first | exact o29 1 (by decide) | exact congrFun (f29 1 (by decide)) 1
        try have u29_2 : σ29 1 2 = σ 1 2 := by first | exact o29 2 (by decide) | exact congrFun (f29 1 (by decide)) 2
        try have u29_3 : σ29 1 3 = σ 1 3 := by first | exact o29 3 (by decide) | exact congrFun (f29 1 (by decide)) 3
        try have u29_4 : σ29 1 4 = σ 1 4 := by first | exact o29 4 (by decide) | exact congrFun (f29 1 (by decide)) 4
        try have u29_5 : σ29 1 5 = σ 1 5 := by first | exact o29 5 (by decide) | exact congrFun (f29 1 (by decide)) 5
        try have u29_6 : σ29 1 6 = σ 1 6 := by first | exact o29 6 (by decide) | exact congrFun (f29 1 (by decide)) 6
        refine pe_iconst d_K_takePlain_32 ?_
        refine pe_ri d_K_takePlain_33 ?_
        exact ⟨hB, (fun b hb => (f29 b (by simp at hb ⊢; try omega)).trans (rfl)), by (try dsimp only); omega⟩
  · skip
    refine pe_aload_n d_K_takePlain_6 rfl ?_
    refine pe_iconst d_K_takePlain_7 ?_
    refine pe_putiT f_K_11 g_1_0 d_K_takePlain_8 rfl rfl 0 rfl hB (by first | exact hB _ _ | exact hB0 _ _ | exact hBt _ _ | exact ⟨by omega, by omega⟩) (fun σ8 hB e8 o8 f8 => ?_)
    try have u8_0 : σ8 1 0 = σ 1 0 := by first | exact o8 0 (by decide) | exact congrFun (f8 1 (by decide)) 0
    try have u8_1 : σ8 1 1 = σ 1 1 := by first | exact o8 1 (by decide) | exact congrFun (f8 1 (by decide)) 1
    try have u8_2 : σ8 1 2 = σ 1 2 := by first | exact o8 2 (by decide) | exact congrFun (f8 1 (by decide)) 2
    try have u8_3 : σ8 1 3 = σ 1 3 := by first | exact o8 3 (by decide) | exact congrFun (f8 1 (by decide)) 3
    try have u8_4 : σ8 1 4 = σ 1 4 := by first | exact o8 4 (by decide) | exact congrFun (f8 1 (by decide)) 4
    try have u8_5 : σ8 1 5 = σ 1 5 := by first | exact o8 5 (by decide) | exact congrFun (f8 1 (by decide)) 5
    try have u8_6 : σ8 1 6 = σ 1 6 := by first | exact o8 6 (by decide) | exact congrFun (f8 1 (by decide)) 6
    refine pe_iconst d_K_takePlain_11 ?_
    refine pe_ri d_K_takePlain_12 ?_
    exact ⟨hB, (fun b hb => (f8 b (by simp at hb ⊢; try omega)).trans (rfl)), by (try dsimp only); omega⟩
theorem x_K_takeWithin {σ : pe_H} {t : Int} (hB : pe_B σ) (hK : pe_kw (σ 1)) (ht : 0 ≤ t ∧ t ≤ 255) (hm : σ 1 0 = 3) : pe_M m_K_takeWithin [pe_r 1, pe_i t] σ (pe_qi (fun z σ' => pe_B σ' ∧ (∀ b, b ∉ [1] → σ' b = σ b) ∧ (z = (if σ 1 0 = 1 then -1 else if σ 1 0 = 2 then (if (48 ≤ t ∧ t ≤ 57) then -1 else if t = 65 then 65536 else if t = 66 then 65537 else if t = 67 then 65538 else if t = 68 then 65539 else if t = 72 then 65540 else if t = 70 then 65541 else if t = 126 then (if σ 1 1 = 3 then 65542 else if σ 1 1 = 200 then 65543 else if σ 1 1 = 201 then 65544 else -1) else -1) else if σ 1 0 = 3 then (if 1 < σ 1 3 ∨ σ 1 2 * 64 + t % 64 < 160 then -1 else σ 1 2 * 64 + t % 64) else (if t = 27 ∨ (194 ≤ t ∧ t ≤ 239) then -1 else if 128 ≤ t then 65533 else if t = 10 ∧ σ 1 6 = 13 then -1 else t))) ∧ σ' 1 6 = σ 1 6 ∧ (σ' 1 0 = (if σ 1 0 = 1 then 2 else if σ 1 0 = 2 then (if (48 ≤ t ∧ t ≤ 57) then 2 else 0) else if σ 1 0 = 3 then (if 1 < σ 1 3 then 3 else 0) else if t = 27 then 1 else if (194 ≤ t ∧ t ≤ 239) then 3 else 0)) ∧ (σ' 1 1 = (if σ 1 0 = 1 then 0 else if σ 1 0 = 2 ∧ (48 ≤ t ∧ t ≤ 57) then (if 9999 ≤ 10 * σ 1 1 + t - 48 then 9999 else 10 * σ 1 1 + t - 48) else σ 1 1)) ∧ (σ' 1 2 = (if σ 1 0 = 3 then σ 1 2 * 64 + t % 64 else if σ 1 0 = 0 ∧ (194 ≤ t ∧ t ≤ 239) then (if t < 224 then t % 32 else t % 16) else σ 1 2)) ∧ (σ' 1 3 = (if σ 1 0 = 3 then σ 1 3 - 1 else if σ 1 0 = 0 ∧ (194 ≤ t ∧ t ≤ 239) then (if t < 224 then 1 else 2) else σ 1 3)) ∧ (σ' 1 4 = (if σ 1 0 = 3 then 128 else if σ 1 0 = 0 ∧ (194 ≤ t ∧ t ≤ 239) then (if t = 224 then 160 else 128) else σ 1 4)) ∧ (σ' 1 5 = (if σ 1 0 = 3 then 191 else if σ 1 0 = 0 ∧ (194 ≤ t ∧ t ≤ 239) then (if t = 237 then 159 else 191) else σ 1 5)))) := by
  refine pe_in0 (lv := [some (pe_r 1), some (pe_i t)]) ?_
  have hB0 := hB
  unfold pe_kw at hK
  refine pe_aload_n d_K_takeWithin_0 rfl ?_
  refine pe_aload_n d_K_takeWithin_1 rfl ?_
  refine pe_geti f_K_59 d_K_takeWithin_2 rfl rfl 2 rfl ?_
  refine pe_bipush d_K_takeWithin_5 ?_
  refine pe_imul d_K_takeWithin_7 ?_
  refine pe_iload_n d_K_takeWithin_8 rfl ?_
  refine pe_bipush d_K_takeWithin_9 ?_
  refine pe_iand d_K_takeWithin_11 (pe_and 6 64 (by omega) (by omega)) ?_
  refine pe_iadd d_K_takeWithin_12 ?_
  refine pe_putiT f_K_59 g_1_2 d_K_takeWithin_13 rfl rfl 2 rfl hB (by first | exact hB _ _ | exact hB0 _ _ | exact hBt _ _ | exact ⟨by omega, by omega⟩) (fun σ13 hB e13 o13 f13 => ?_)
  try have u13_0 : σ13 1 0 = σ 1 0 := by first | exact o13 0 (by decide) | exact congrFun (f13 1 (by decide)) 0
  try have u13_1 : σ13 1 1 = σ 1 1 := by first | exact o13 1 (by decide) | exact congrFun (f13 1 (by decide)) 1
  try have u13_2 : σ13 1 2 = σ 1 2 := by first | exact o13 2 (by decide) | exact congrFun (f13 1 (by decide)) 2
  try have u13_3 : σ13 1 3 = σ 1 3 := by first | exact o13 3 (by decide) | exact congrFun (f13 1 (by decide)) 3
  try have u13_4 : σ13 1 4 = σ 1 4 := by first | exact o13 4 (by decide) | exact congrFun (f13 1 (by decide)) 4
  try have u13_5 : σ13 1 5 = σ 1 5 := by first | exact o13 5 (by decide) | exact congrFun (f13 1 (by decide)) 5
  try have u13_6 : σ13 1 6 = σ 1 6 := by first | exact o13 6 (by decide) | exact congrFun (f13 1 (by decide)) 6
  refine pe_aload_n d_K_takeWithin_16 rfl ?_
  refine pe_sipush d_K_takeWithin_17 ?_
  refine pe_putiT f_K_46 g_1_4 d_K_takeWithin_20 rfl rfl 4 rfl hB (by first | exact hB _ _ | exact hB0 _ _ | exact hBt _ _ | exact ⟨by omega, by omega⟩) (fun σ20 hB e20 o20 f20 => ?_)
  try have u20_0 : σ20 1 0 = σ13 1 0 := by first | exact o20 0 (by decide) | exact congrFun (f20 1 (by decide)) 0
  try have u20_1 : σ20 1 1 = σ13 1 1 := by first | exact o20 1 (by decide) | exact congrFun (f20 1 (by decide)) 1
  try have u20_2 : σ20 1 2 = σ13 1 2 := by first | exact o20 2 (by decide) | exact congrFun (f20 1 (by decide)) 2
  try have u20_3 : σ20 1 3 = σ13 1 3 := by first | exact o20 3 (by decide) | exact congrFun (f20 1 (by decide)) 3
  try have u20_4 : σ20 1 4 = σ13 1 4 := by first | exact o20 4 (by decide) | exact congrFun (f20 1 (by decide)) 4
  try have u20_5 : σ20 1 5 = σ13 1 5 := by first | exact o20 5 (by decide) | exact congrFun (f20 1 (by decide)) 5
  try have u20_6 : σ20 1 6 = σ13 1 6 := by first | exact o20 6 (by decide) | exact congrFun (f20 1 (by decide)) 6
  refine pe_aload_n d_K_takeWithin_23 rfl ?_
  refine pe_sipush d_K_takeWithin_24 ?_
  refine pe_putiT f_K_49 g_1_5 d_K_takeWithin_27 rfl rfl 5 rfl hB (by first | exact hB _ _ | exact hB0 _ _ | exact hBt _ _ | exact ⟨by omega, by omega⟩) (fun σ27 hB e27 o27 f27 => ?_)
  try have u27_0 : σ27 1 0 = σ20 1 0 := by first | exact o27 0 (by decide) | exact congrFun (f27 1 (by decide)) 0
  try have u27_1 : σ27 1 1 = σ20 1 1 := by first | exact o27 1 (by decide) | exact congrFun (f27 1 (by decide)) 1
  try have u27_2 : σ27 1 2 = σ20 1 2 := by first | exact o27 2 (by decide) | exact congrFun (f27 1 (by decide)) 2
  try have u27_3 : σ27 1 3 = σ20 1 3 := by first | exact o27 3 (by decide) | exact congrFun (f27 1 (by decide)) 3
  try have u27_4 : σ27 1 4 = σ20 1 4 := by first | exact o27 4 (by decide) | exact congrFun (f27 1 (by decide)) 4
  try have u27_5 : σ27 1 5 = σ20 1 5 := by first | exact o27 5 (by decide) | exact congrFun (f27 1 (by decide)) 5
  try have u27_6 : σ27 1 6 = σ20 1 6 := by first | exact o27 6 (by decide) | exact congrFun (f27 1 (by decide)) 6
  refine pe_aload_n d_K_takeWithin_30 rfl ?_
  refine pe_dup d_K_takeWithin_31 ?_
  refine pe_geti f_K_56 d_K_takeWithin_32 rfl rfl 3 rfl ?_
  refine pe_iconst d_K_takeWithin_35 ?_
  refine pe_isub d_K_takeWithin_36 ?_
  refine pe_putiT f_K_56 g_1_3 d_K_takeWithin_37 rfl rfl 3 rfl hB (by first | exact hB _ _ | exact hB0 _ _ | exact hBt _ _ | exact ⟨by omega, by omega⟩) (fun σ37 hB e37 o37 f37 => ?_)
  try have u37_0 : σ37 1 0 = σ27 1 0 := by first | exact o37 0 (by decide) | exact congrFun (f37 1 (by decide)) 0
  try have u37_1 : σ37 1 1 = σ27 1 1 := by first | exact o37 1 (by decide) | exact congrFun (f37 1 (by decide)) 1
  try have u37_2 : σ37 1 2 = σ27 1 2 := by first | exact o37 2 (by decide) | exact congrFun (f37 1 (by decide)) 2
  try have u37_3 : σ37 1 3 = σ27 1 3 := by first | exact o37 3 (by decide) | exact congrFun (f37 1 (by decide)) 3
  try have u37_4 : σ37 1 4 = σ27 1 4 := by first | exact o37 4 (by decide) | exact congrFun (f37 1 (by decide)) 4
  try have u37_5 : σ37 1 5 = σ27 1 5 := by first | exact o37 5 (by decide) | exact congrFun (f37 1 (by decide)) 5
  try have u37_6 : σ37 1 6 = σ27 1 6 := by first | exact o37 6 (by decide) | exact congrFun (f37 1 (by decide)) 6
  refine pe_aload_n d_K_takeWithin_40 rfl ?_
  refine pe_geti f_K_56 d_K_takeWithin_41 rfl rfl 3 rfl ?_
  refine pe_if_le (t := 49) d_K_takeWithin_44 (by first | exact hB _ _ | exact hB0 _ _ | exact hBt _ _ | exact ⟨by omega, by omega⟩) (fun h44 => ?_) (fun h44 => ?_)
  · skip
    refine pe_aload_n d_K_takeWithin_49 rfl ?_
    refine pe_iconst d_K_takeWithin_50 ?_
    refine pe_putiT f_K_11 g_1_0 d_K_takeWithin_51 rfl rfl 0 rfl hB (by first | exact hB _ _ | exact hB0 _ _ | exact hBt _ _ | exact ⟨by omega, by omega⟩) (fun σ51 hB e51 o51 f51 => ?_)
    try have u51_0 : σ51 1 0 = σ37 1 0 := by first | exact o51 0 (by decide) | exact congrFun (f51 1 (by decide)) 0
    try have u51_1 : σ51 1 1 = σ37 1 1 := by first | exact o51 1 (by decide) | exact congrFun (f51 1 (by decide)) 1
    try have u51_2 : σ51 1 2 = σ37 1 2 := by first | exact o51 2 (by decide) | exact congrFun (f51 1 (by decide)) 2
    try have u51_3 : σ51 1 3 = σ37 1 3 := by first | exact o51 3 (by decide) | exact congrFun (f51 1 (by decide)) 3
    try have u51_4 : σ51 1 4 = σ37 1 4 := by first | exact o51 4 (by decide) | exact congrFun (f51 1 (by decide)) 4
    try have u51_5 : σ51 1 5 = σ37 1 5 := by first | exact o51 5 (by decide) | exact congrFun (f51 1 (by decide)) 5
    try have u51_6 : σ51 1 6 = σ37 1 6 := by first | exact o51 6 (by decide) | exact congrFun (f51 1 (by decide)) 6
    refine pe_aload_n d_K_takeWithin_54 rfl ?_
    refine pe_geti f_K_59 d_K_takeWithin_55 rfl rfl 2 rfl ?_
    refine pe_sipush d_K_takeWithin_58 ?_
    refine pe_icmp_ge (t := 68) d_K_takeWithin_61 (by first | exact hB _ _ | exact hB0 _ _ | exact hBt _ _ | exact ⟨by omega, by omega⟩) (by first | exact hB _ _ | exact hB0 _ _ | exact hBt _ _ | exact ⟨by omega, by omega⟩) (fun h61 => ?_) (fun h61 => ?_)
    · skip
      refine pe_aload_n d_K_takeWithin_68 rfl ?_
      refine pe_geti f_K_59 d_K_takeWithin_69 rfl rfl 2 rfl ?_
      refine pe_ri d_K_takeWithin_72 ?_
      exact ⟨hB, (fun b hb => (f51 b (by simp at hb ⊢; try omega)).trans ((f37 b (by simp at hb ⊢; try omega)).trans ((f27 b (by simp at hb ⊢; try omega)).trans ((f20 b (by simp at hb ⊢; try omega)).trans ((f13 b (by simp at hb ⊢; try omega)).trans (rfl)))))), by (try dsimp only); omega⟩
    · skip
      refine pe_iconst d_K_takeWithin_64 ?_
      refine pe_goto (t := 72) d_K_takeWithin_65 ?_
      refine pe_ri d_K_takeWithin_72 ?_
      exact ⟨hB, (fun b hb => (f51 b (by simp at hb ⊢; try omega)).trans ((f37 b (by simp at hb ⊢; try omega)).trans ((f27 b (by simp at hb ⊢; try omega)).trans ((f20 b (by simp at hb ⊢; try omega)).trans ((f13 b (by simp at hb ⊢; try omega)).trans (rfl)))))), by (try dsimp only); omega⟩
  · skip
    refine pe_iconst d_K_takeWithin_47 ?_
    refine pe_ri d_K_takeWithin_48 ?_
    exact ⟨hB, (fun b hb => (f37 b (by simp at hb ⊢; try omega)).trans ((f27 b (by simp at hb ⊢; try omega)).trans ((f20 b (by simp at hb ⊢; try omega)).trans ((f13 b (by simp at hb ⊢; try omega)).trans (rfl))))), by (try dsimp only); omega⟩
theorem x_K_numberedKey {σ : pe_H} (hB : pe_B σ) : pe_M m_K_numberedKey [pe_r 1] σ (pe_qp σ (fun z => z = if σ 1 1 = 3 then 65542 else if σ 1 1 = 200 then 65543 else if σ 1 1 = 201 then 65544 else -1)) := by
  refine pe_in0 (lv := [some (pe_r 1)]) ?_
  have hB0 := hB
  refine pe_aload_n d_K_numberedKey_0 rfl ?_
  refine pe_geti f_K_27 d_K_numberedKey_1 rfl rfl 1 rfl ?_
  refine pe_lsw [(3, 40), (200, 43), (201, 46)] (dt := 49) d_K_numberedKey_4 (by first | exact hB _ _ | exact hB0 _ _ | exact hBt _ _ | exact ⟨by omega, by omega⟩) ?_
  refine ⟨fun h4 => ?_, fun h4_0 => ?_⟩
  · show pe_G _ _ _ _ _ _
    refine pe_ldc q_K_77 d_K_numberedKey_40 (z := 65542) rfl ?_
    refine pe_ri d_K_numberedKey_42 ?_
    exact ⟨rfl, by (try dsimp only); omega⟩
  refine ⟨fun h4 => ?_, fun h4_1 => ?_⟩
  · show pe_G _ _ _ _ _ _
    refine pe_ldc q_K_78 d_K_numberedKey_43 (z := 65543) rfl ?_
    refine pe_ri d_K_numberedKey_45 ?_
    exact ⟨rfl, by (try dsimp only); omega⟩
  refine ⟨fun h4 => ?_, fun h4_2 => ?_⟩
  · show pe_G _ _ _ _ _ _
    refine pe_ldc q_K_79 d_K_numberedKey_46 (z := 65544) rfl ?_
    refine pe_ri d_K_numberedKey_48 ?_
    exact ⟨rfl, by (try dsimp only); omega⟩
  show pe_G _ _ _ _ _ _
  refine pe_iconst d_K_numberedKey_49 ?_
  refine pe_ri d_K_numberedKey_50 ?_
  exact ⟨rfl, by (try dsimp only); omega⟩
theorem x_K_takeInSequence {σ : pe_H} {t : Int} (hB : pe_B σ) (hK : pe_kw (σ 1)) (ht : 0 ≤ t ∧ t ≤ 255) (hm : σ 1 0 = 2) : pe_M m_K_takeInSequence [pe_r 1, pe_i t] σ (pe_qi (fun z σ' => pe_B σ' ∧ (∀ b, b ∉ [1] → σ' b = σ b) ∧ (z = (if σ 1 0 = 1 then -1 else if σ 1 0 = 2 then (if (48 ≤ t ∧ t ≤ 57) then -1 else if t = 65 then 65536 else if t = 66 then 65537 else if t = 67 then 65538 else if t = 68 then 65539 else if t = 72 then 65540 else if t = 70 then 65541 else if t = 126 then (if σ 1 1 = 3 then 65542 else if σ 1 1 = 200 then 65543 else if σ 1 1 = 201 then 65544 else -1) else -1) else if σ 1 0 = 3 then (if 1 < σ 1 3 ∨ σ 1 2 * 64 + t % 64 < 160 then -1 else σ 1 2 * 64 + t % 64) else (if t = 27 ∨ (194 ≤ t ∧ t ≤ 239) then -1 else if 128 ≤ t then 65533 else if t = 10 ∧ σ 1 6 = 13 then -1 else t))) ∧ σ' 1 6 = σ 1 6 ∧ (σ' 1 0 = (if σ 1 0 = 1 then 2 else if σ 1 0 = 2 then (if (48 ≤ t ∧ t ≤ 57) then 2 else 0) else if σ 1 0 = 3 then (if 1 < σ 1 3 then 3 else 0) else if t = 27 then 1 else if (194 ≤ t ∧ t ≤ 239) then 3 else 0)) ∧ (σ' 1 1 = (if σ 1 0 = 1 then 0 else if σ 1 0 = 2 ∧ (48 ≤ t ∧ t ≤ 57) then (if 9999 ≤ 10 * σ 1 1 + t - 48 then 9999 else 10 * σ 1 1 + t - 48) else σ 1 1)) ∧ (σ' 1 2 = (if σ 1 0 = 3 then σ 1 2 * 64 + t % 64 else if σ 1 0 = 0 ∧ (194 ≤ t ∧ t ≤ 239) then (if t < 224 then t % 32 else t % 16) else σ 1 2)) ∧ (σ' 1 3 = (if σ 1 0 = 3 then σ 1 3 - 1 else if σ 1 0 = 0 ∧ (194 ≤ t ∧ t ≤ 239) then (if t < 224 then 1 else 2) else σ 1 3)) ∧ (σ' 1 4 = (if σ 1 0 = 3 then 128 else if σ 1 0 = 0 ∧ (194 ≤ t ∧ t ≤ 239) then (if t = 224 then 160 else 128) else σ 1 4)) ∧ (σ' 1 5 = (if σ 1 0 = 3 then 191 else if σ 1 0 = 0 ∧ (194 ≤ t ∧ t ≤ 239) then (if t = 237 then 159 else 191) else σ 1 5)))) := by
  refine pe_in0 (lv := [some (pe_r 1), some (pe_i t)]) ?_
  have hB0 := hB
  unfold pe_kw at hK
  refine pe_iload_n d_K_takeInSequence_0 rfl ?_
  refine pe_s1p d_K_takeInSequence_1 c_K_40 z_K_isDigit (x_K_isDigit (by first | exact hB _ _ | exact hB0 _ _ | exact hBt _ _ | exact ⟨by omega, by omega⟩)) (fun z1 hz1 => ?_)
  refine pe_if_eq (t := 31) d_K_takeInSequence_4 (by first | exact hB _ _ | exact hB0 _ _ | exact hBt _ _ | exact ⟨by omega, by omega⟩) (fun h4 => ?_) (fun h4 => ?_)
  · skip
    refine pe_aload_n d_K_takeInSequence_31 rfl ?_
    refine pe_iconst d_K_takeInSequence_32 ?_
    refine pe_putiT f_K_11 g_1_0 d_K_takeInSequence_33 rfl rfl 0 rfl hB (by first | exact hB _ _ | exact hB0 _ _ | exact hBt _ _ | exact ⟨by omega, by omega⟩) (fun σ33 hB e33 o33 f33 => ?_)
    try have u33_0 : σ33 1 0 = σ 1 0 := by first | exact o33 0 (by decide) | exact congrFun (f33 1 (by decide)) 0
    try have u33_1 : σ33 1 1 = σ 1 1 := by first | exact o33 1 (by decide) | exact congrFun (f33 1 (by decide)) 1
    try have u33_2 : σ33 1 2 = σ 1 2 := by first | exact o33 2 (by decide) | exact congrFun (f33 1 (by decide)) 2
    try have u33_3 : σ33 1 3 = σ 1 3 := by first | exact o33 3 (by decide) | exact congrFun (f33 1 (by decide)) 3
    try have u33_4 : σ33 1 4 = σ 1 4 := by first | exact o33 4 (by decide) | exact congrFun (f33 1 (by decide)) 4
    try have u33_5 : σ33 1 5 = σ 1 5 := by first | exact o33 5 (by decide) | exact congrFun (f33 1 (by decide)) 5
    try have u33_6 : σ33 1 6 = σ 1 6 := by first | exact o33 6 (by decide) | exact congrFun (f33 1 (by decide)) 6
    refine pe_iload_n d_K_takeInSequence_36 rfl ?_
    refine pe_lsw [(65, 104), (66, 107), (67, 110), (68, 113), (70, 119), (72, 116), (126, 122)] (dt := 127) d_K_takeInSequence_37 (by first | exact hB _ _ | exact hB0 _ _ | exact hBt _ _ | exact ⟨by omega, by omega⟩) ?_
    refine ⟨fun h37 => ?_, fun h37_0 => ?_⟩
    · show pe_G _ _ _ _ _ _
      refine pe_ldc q_K_68 d_K_takeInSequence_104 (z := 65536) rfl ?_
      refine pe_ri d_K_takeInSequence_106 ?_
      exact ⟨hB, (fun b hb => (f33 b (by simp at hb ⊢; try omega)).trans (rfl)), by (try dsimp only); omega⟩
    refine ⟨fun h37 => ?_, fun h37_1 => ?_⟩
    · show pe_G _ _ _ _ _ _
      refine pe_ldc q_K_69 d_K_takeInSequence_107 (z := 65537) rfl ?_
      refine pe_ri d_K_takeInSequence_109 ?_
      exact ⟨hB, (fun b hb => (f33 b (by simp at hb ⊢; try omega)).trans (rfl)), by (try dsimp only); omega⟩
    refine ⟨fun h37 => ?_, fun h37_2 => ?_⟩
    · show pe_G _ _ _ _ _ _
      refine pe_ldc q_K_70 d_K_takeInSequence_110 (z := 65538) rfl ?_
      refine pe_ri d_K_takeInSequence_112 ?_
      exact ⟨hB, (fun b hb => (f33 b (by simp at hb ⊢; try omega)).trans (rfl)), by (try dsimp only); omega⟩
    refine ⟨fun h37 => ?_, fun h37_3 => ?_⟩
    · show pe_G _ _ _ _ _ _
      refine pe_ldc q_K_71 d_K_takeInSequence_113 (z := 65539) rfl ?_
      refine pe_ri d_K_takeInSequence_115 ?_
      exact ⟨hB, (fun b hb => (f33 b (by simp at hb ⊢; try omega)).trans (rfl)), by (try dsimp only); omega⟩
    refine ⟨fun h37 => ?_, fun h37_4 => ?_⟩
    · show pe_G _ _ _ _ _ _
      refine pe_ldc q_K_73 d_K_takeInSequence_119 (z := 65541) rfl ?_
      refine pe_ri d_K_takeInSequence_121 ?_
      exact ⟨hB, (fun b hb => (f33 b (by simp at hb ⊢; try omega)).trans (rfl)), by (try dsimp only); omega⟩
    refine ⟨fun h37 => ?_, fun h37_5 => ?_⟩
    · show pe_G _ _ _ _ _ _
      refine pe_ldc q_K_72 d_K_takeInSequence_116 (z := 65540) rfl ?_
      refine pe_ri d_K_takeInSequence_118 ?_
      exact ⟨hB, (fun b hb => (f33 b (by simp at hb ⊢; try omega)).trans (rfl)), by (try dsimp only); omega⟩
    refine ⟨fun h37 => ?_, fun h37_6 => ?_⟩
    · show pe_G _ _ _ _ _ _
      refine pe_aload_n d_K_takeInSequence_122 rfl ?_
      refine pe_v0p d_K_takeInSequence_123 c_K_74 i_K_numberedKey s_K_numberedKey rfl rfl (x_K_numberedKey hB) (fun z123 hz123 => ?_)
      skip
      refine pe_ri d_K_takeInSequence_126 ?_
      exact ⟨hB, (fun b hb => (f33 b (by simp at hb ⊢; try omega)).trans (rfl)), by (try dsimp only); omega⟩
    show pe_G _ _ _ _ _ _
    refine pe_iconst d_K_takeInSequence_127 ?_
    refine pe_ri d_K_takeInSequence_128 ?_
    exact ⟨hB, (fun b hb => (f33 b (by simp at hb ⊢; try omega)).trans (rfl)), by (try dsimp only); omega⟩
  · skip
    refine pe_aload_n d_K_takeInSequence_7 rfl ?_
    refine pe_sipush d_K_takeInSequence_8 ?_
    refine pe_bipush d_K_takeInSequence_11 ?_
    refine pe_aload_n d_K_takeInSequence_13 rfl ?_
    refine pe_geti f_K_27 d_K_takeInSequence_14 rfl rfl 1 rfl ?_
    refine pe_imul d_K_takeInSequence_17 ?_
    refine pe_iload_n d_K_takeInSequence_18 rfl ?_
    refine pe_iadd d_K_takeInSequence_19 ?_
    refine pe_bipush d_K_takeInSequence_20 ?_
    refine pe_isub d_K_takeInSequence_22 ?_
    refine pe_minT c_K_62 d_K_takeInSequence_23 (by first | exact hB _ _ | exact hB0 _ _ | exact hBt _ _ | exact ⟨by omega, by omega⟩) (by first | exact hB _ _ | exact hB0 _ _ | exact hBt _ _ | exact ⟨by omega, by omega⟩) (fun z23 hz23 => ?_)
    refine pe_putiT f_K_27 g_1_1 d_K_takeInSequence_26 rfl rfl 1 rfl hB (by first | exact hB _ _ | exact hB0 _ _ | exact hBt _ _ | exact ⟨by omega, by omega⟩) (fun σ26 hB e26 o26 f26 => ?_)
    try have u26_0 : σ26 1 0 = σ 1 0 := by first | exact o26 0 (by decide) | exact congrFun (f26 1 (by decide)) 0
    try have u26_1 : σ26 1 1 = σ 1 1 := by first | exact o26 1 (by decide) | exact congrFun (f26 1 (by decide)) 1
    try have u26_2 : σ26 1 2 = σ 1 2 := by first | exact o26 2 (by decide) | exact congrFun (f26 1 (by decide)) 2
    try have u26_3 : σ26 1 3 = σ 1 3 := by first | exact o26 3 (by decide) | exact congrFun (f26 1 (by decide)) 3
    try have u26_4 : σ26 1 4 = σ 1 4 := by first | exact o26 4 (by decide) | exact congrFun (f26 1 (by decide)) 4
    try have u26_5 : σ26 1 5 = σ 1 5 := by first | exact o26 5 (by decide) | exact congrFun (f26 1 (by decide)) 5
    try have u26_6 : σ26 1 6 = σ 1 6 := by first | exact o26 6 (by decide) | exact congrFun (f26 1 (by decide)) 6
    refine pe_iconst d_K_takeInSequence_29 ?_
    refine pe_ri d_K_takeInSequence_30 ?_
    exact ⟨hB, (fun b hb => (f26 b (by simp at hb ⊢; try omega)).trans (rfl)), by (try dsimp only); omega⟩
set_option maxHeartbeats 2000000 in
theorem x_K_take {σ : pe_H} {t : Int} (hB : pe_B σ) (hK : pe_kw (σ 1)) (ht : 0 ≤ t ∧ t ≤ 255) : pe_M m_K_take [pe_r 1, pe_i t] σ (pe_qi (fun z σ' => pe_B σ' ∧ (∀ b, b ∉ [1] → σ' b = σ b) ∧ (z = (if σ 1 0 = 1 then -1 else if σ 1 0 = 2 then (if (48 ≤ t ∧ t ≤ 57) then -1 else if t = 65 then 65536 else if t = 66 then 65537 else if t = 67 then 65538 else if t = 68 then 65539 else if t = 72 then 65540 else if t = 70 then 65541 else if t = 126 then (if σ 1 1 = 3 then 65542 else if σ 1 1 = 200 then 65543 else if σ 1 1 = 201 then 65544 else -1) else -1) else if σ 1 0 = 3 then (if 1 < σ 1 3 ∨ σ 1 2 * 64 + t % 64 < 160 then -1 else σ 1 2 * 64 + t % 64) else (if t = 27 ∨ (194 ≤ t ∧ t ≤ 239) then -1 else if 128 ≤ t then 65533 else if t = 10 ∧ σ 1 6 = 13 then -1 else t))) ∧ (σ' 1 0 = (if σ 1 0 = 1 then 2 else if σ 1 0 = 2 then (if (48 ≤ t ∧ t ≤ 57) then 2 else 0) else if σ 1 0 = 3 then (if 1 < σ 1 3 then 3 else 0) else if t = 27 then 1 else if (194 ≤ t ∧ t ≤ 239) then 3 else 0)) ∧ (σ' 1 1 = (if σ 1 0 = 1 then 0 else if σ 1 0 = 2 ∧ (48 ≤ t ∧ t ≤ 57) then (if 9999 ≤ 10 * σ 1 1 + t - 48 then 9999 else 10 * σ 1 1 + t - 48) else σ 1 1)) ∧ (σ' 1 2 = (if σ 1 0 = 3 then σ 1 2 * 64 + t % 64 else if σ 1 0 = 0 ∧ (194 ≤ t ∧ t ≤ 239) then (if t < 224 then t % 32 else t % 16) else σ 1 2)) ∧ (σ' 1 3 = (if σ 1 0 = 3 then σ 1 3 - 1 else if σ 1 0 = 0 ∧ (194 ≤ t ∧ t ≤ 239) then (if t < 224 then 1 else 2) else σ 1 3)) ∧ (σ' 1 4 = (if σ 1 0 = 3 then 128 else if σ 1 0 = 0 ∧ (194 ≤ t ∧ t ≤ 239) then (if t = 224 then 160 else 128) else σ 1 4)) ∧ (σ' 1 5 = (if σ 1 0 = 3 then 191 else if σ 1 0 = 0 ∧ (194 ≤ t ∧ t ≤ 239) then (if t = 237 then 159 else 191) else σ 1 5)) ∧ (σ' 1 6 = t))) := by
  refine pe_in0 (lv := [some (pe_r 1), some (pe_i t), none]) ?_
  have hB0 := hB
  have hK0 := hK
  unfold pe_kw at hK
  refine pe_iconst d_K_take_0 ?_
  refine pe_istore_n d_K_take_1 ?_
  refine pe_aload_n d_K_take_2 rfl ?_
  refine pe_geti f_K_11 d_K_take_3 rfl rfl 0 rfl ?_
  refine pe_tsw [(1, 32), (2, 45), (3, 54)] (dt := 63) d_K_take_6 (by first | exact hB _ _ | exact hB0 _ _ | exact hBt _ _ | exact ⟨by omega, by omega⟩) ?_
  refine ⟨fun h6 => ?_, fun h6_0 => ?_⟩
  · show pe_G _ _ _ _ _ _
    refine pe_aload_n d_K_take_32 rfl ?_
    refine pe_iconst d_K_take_33 ?_
    refine pe_putiT f_K_11 g_1_0 d_K_take_34 rfl rfl 0 rfl hB (by first | exact hB _ _ | exact hB0 _ _ | exact hBt _ _ | exact ⟨by omega, by omega⟩) (fun σ34 hB e34 o34 f34 => ?_)
    try have u34_0 : σ34 1 0 = σ 1 0 := by first | exact o34 0 (by decide) | exact congrFun (f34 1 (by decide)) 0
    try have u34_1 : σ34 1 1 = σ 1 1 := by first | exact o34 1 (by decide) | exact congrFun (f34 1 (by decide)) 1
    try have u34_2 : σ34 1 2 = σ 1 2 := by first | exact o34 2 (by decide) | exact congrFun (f34 1 (by decide)) 2
    try have u34_3 : σ34 1 3 = σ 1 3 := by first | exact o34 3 (by decide) | exact congrFun (f34 1 (by decide)) 3
    try have u34_4 : σ34 1 4 = σ 1 4 := by first | exact o34 4 (by decide) | exact congrFun (f34 1 (by decide)) 4
    try have u34_5 : σ34 1 5 = σ 1 5 := by first | exact o34 5 (by decide) | exact congrFun (f34 1 (by decide)) 5
    try have u34_6 : σ34 1 6 = σ 1 6 := by first | exact o34 6 (by decide) | exact congrFun (f34 1 (by decide)) 6
    refine pe_aload_n d_K_take_37 rfl ?_
    refine pe_iconst d_K_take_38 ?_
    refine pe_putiT f_K_27 g_1_1 d_K_take_39 rfl rfl 1 rfl hB (by first | exact hB _ _ | exact hB0 _ _ | exact hBt _ _ | exact ⟨by omega, by omega⟩) (fun σ39 hB e39 o39 f39 => ?_)
    try have u39_0 : σ39 1 0 = σ34 1 0 := by first | exact o39 0 (by decide) | exact congrFun (f39 1 (by decide)) 0
    try have u39_1 : σ39 1 1 = σ34 1 1 := by first | exact o39 1 (by decide) | exact congrFun (f39 1 (by decide)) 1
    try have u39_2 : σ39 1 2 = σ34 1 2 := by first | exact o39 2 (by decide) | exact congrFun (f39 1 (by decide)) 2
    try have u39_3 : σ39 1 3 = σ34 1 3 := by first | exact o39 3 (by decide) | exact congrFun (f39 1 (by decide)) 3
    try have u39_4 : σ39 1 4 = σ34 1 4 := by first | exact o39 4 (by decide) | exact congrFun (f39 1 (by decide)) 4
    try have u39_5 : σ39 1 5 = σ34 1 5 := by first | exact o39 5 (by decide) | exact congrFun (f39 1 (by decide)) 5
    try have u39_6 : σ39 1 6 = σ34 1 6 := by first | exact o39 6 (by decide) | exact congrFun (f39 1 (by decide)) 6
    refine pe_goto (t := 69) d_K_take_42 ?_
    refine pe_aload_n d_K_take_69 rfl ?_
    refine pe_iload_n d_K_take_70 rfl ?_
    refine pe_putiT f_K_15 g_1_6 d_K_take_71 rfl rfl 6 rfl hB (by first | exact hB _ _ | exact hB0 _ _ | exact hBt _ _ | exact ⟨by omega, by omega⟩) (fun σ71 hB e71 o71 f71 => ?_)
    try have u71_0 : σ71 1 0 = σ39 1 0 := by first | exact o71 0 (by decide) | exact congrFun (f71 1 (by decide)) 0
    try have u71_1 : σ71 1 1 = σ39 1 1 := by first | exact o71 1 (by decide) | exact congrFun (f71 1 (by decide)) 1
    try have u71_2 : σ71 1 2 = σ39 1 2 := by first | exact o71 2 (by decide) | exact congrFun (f71 1 (by decide)) 2
    try have u71_3 : σ71 1 3 = σ39 1 3 := by first | exact o71 3 (by decide) | exact congrFun (f71 1 (by decide)) 3
    try have u71_4 : σ71 1 4 = σ39 1 4 := by first | exact o71 4 (by decide) | exact congrFun (f71 1 (by decide)) 4
    try have u71_5 : σ71 1 5 = σ39 1 5 := by first | exact o71 5 (by decide) | exact congrFun (f71 1 (by decide)) 5
    try have u71_6 : σ71 1 6 = σ39 1 6 := by first | exact o71 6 (by decide) | exact congrFun (f71 1 (by decide)) 6
    refine pe_iload_n d_K_take_74 rfl ?_
    refine pe_ri d_K_take_75 ?_
    exact ⟨hB, (fun b hb => (f71 b (by simp at hb ⊢; try omega)).trans ((f39 b (by simp at hb ⊢; try omega)).trans ((f34 b (by simp at hb ⊢; try omega)).trans (rfl)))), by (try dsimp only); omega⟩
  refine ⟨fun h6 => ?_, fun h6_1 => ?_⟩
  · show pe_G _ _ _ _ _ _
    refine pe_aload_n d_K_take_45 rfl ?_
    refine pe_iload_n d_K_take_46 rfl ?_
    refine pe_v1i d_K_take_47 c_K_30 i_K_takeInSequence s_K_takeInSequence rfl rfl (x_K_takeInSequence hB hK0 (by omega) (by omega)) (fun z47 σ47 hz47 => ?_)
    obtain ⟨hB, f47, x47⟩ := hz47
    try have u47_0 : σ47 1 0 = σ 1 0 := by first | exact o47 0 (by decide) | exact congrFun (f47 1 (by decide)) 0
    try have u47_1 : σ47 1 1 = σ 1 1 := by first | exact o47 1 (by decide) | exact congrFun (f47 1 (by decide)) 1
    try have u47_2 : σ47 1 2 = σ 1 2 := by first | exact o47 2 (by decide) | exact congrFun (f47 1 (by decide)) 2
    try have u47_3 : σ47 1 3 = σ 1 3 := by first | exact o47 3 (by decide) | exact congrFun (f47 1 (by decide)) 3
    try have u47_4 : σ47 1 4 = σ 1 4 := by first | exact o47 4 (by decide) | exact congrFun (f47 1 (by decide)) 4
    try have u47_5 : σ47 1 5 = σ 1 5 := by first | exact o47 5 (by decide) | exact congrFun (f47 1 (by decide)) 5
    try have u47_6 : σ47 1 6 = σ 1 6 := by first | exact o47 6 (by decide) | exact congrFun (f47 1 (by decide)) 6
    skip
    refine pe_istore_n d_K_take_50 ?_
    refine pe_goto (t := 69) d_K_take_51 ?_
    refine pe_aload_n d_K_take_69 rfl ?_
    refine pe_iload_n d_K_take_70 rfl ?_
    refine pe_putiT f_K_15 g_1_6 d_K_take_71 rfl rfl 6 rfl hB (by first | exact hB _ _ | exact hB0 _ _ | exact hBt _ _ | exact ⟨by omega, by omega⟩) (fun σ71 hB e71 o71 f71 => ?_)
    try have u71_0 : σ71 1 0 = σ47 1 0 := by first | exact o71 0 (by decide) | exact congrFun (f71 1 (by decide)) 0
    try have u71_1 : σ71 1 1 = σ47 1 1 := by first | exact o71 1 (by decide) | exact congrFun (f71 1 (by decide)) 1
    try have u71_2 : σ71 1 2 = σ47 1 2 := by first | exact o71 2 (by decide) | exact congrFun (f71 1 (by decide)) 2
    try have u71_3 : σ71 1 3 = σ47 1 3 := by first | exact o71 3 (by decide) | exact congrFun (f71 1 (by decide)) 3
    try have u71_4 : σ71 1 4 = σ47 1 4 := by first | exact o71 4 (by decide) | exact congrFun (f71 1 (by decide)) 4
    try have u71_5 : σ71 1 5 = σ47 1 5 := by first | exact o71 5 (by decide) | exact congrFun (f71 1 (by decide)) 5
    try have u71_6 : σ71 1 6 = σ47 1 6 := by first | exact o71 6 (by decide) | exact congrFun (f71 1 (by decide)) 6
    refine pe_iload_n d_K_take_74 rfl ?_
    refine pe_ri d_K_take_75 ?_
    exact ⟨hB, (fun b hb => (f71 b (by simp at hb ⊢; try omega)).trans ((f47 b (by simp at hb ⊢; try omega)).trans (rfl))), by (try dsimp only); omega⟩
  refine ⟨fun h6 => ?_, fun h6_2 => ?_⟩
  · show pe_G _ _ _ _ _ _
    refine pe_aload_n d_K_take_54 rfl ?_
    refine pe_iload_n d_K_take_55 rfl ?_
    refine pe_v1i d_K_take_56 c_K_34 i_K_takeWithin s_K_takeWithin rfl rfl (x_K_takeWithin hB hK0 (by omega) (by omega)) (fun z56 σ56 hz56 => ?_)
    obtain ⟨hB, f56, x56⟩ := hz56
    try have u56_0 : σ56 1 0 = σ 1 0 := by first | exact o56 0 (by decide) | exact congrFun (f56 1 (by decide)) 0
    try have u56_1 : σ56 1 1 = σ 1 1 := by first | exact o56 1 (by decide) | exact congrFun (f56 1 (by decide)) 1
    try have u56_2 : σ56 1 2 = σ 1 2 := by first | exact o56 2 (by decide) | exact congrFun (f56 1 (by decide)) 2
    try have u56_3 : σ56 1 3 = σ 1 3 := by first | exact o56 3 (by decide) | exact congrFun (f56 1 (by decide)) 3
    try have u56_4 : σ56 1 4 = σ 1 4 := by first | exact o56 4 (by decide) | exact congrFun (f56 1 (by decide)) 4
    try have u56_5 : σ56 1 5 = σ 1 5 := by first | exact o56 5 (by decide) | exact congrFun (f56 1 (by decide)) 5
    try have u56_6 : σ56 1 6 = σ 1 6 := by first | exact o56 6 (by decide) | exact congrFun (f56 1 (by decide)) 6
    skip
    refine pe_istore_n d_K_take_59 ?_
    refine pe_goto (t := 69) d_K_take_60 ?_
    refine pe_aload_n d_K_take_69 rfl ?_
    refine pe_iload_n d_K_take_70 rfl ?_
    refine pe_putiT f_K_15 g_1_6 d_K_take_71 rfl rfl 6 rfl hB (by first | exact hB _ _ | exact hB0 _ _ | exact hBt _ _ | exact ⟨by omega, by omega⟩) (fun σ71 hB e71 o71 f71 => ?_)
    try have u71_0 : σ71 1 0 = σ56 1 0 := by first | exact o71 0 (by decide) | exact congrFun (f71 1 (by decide)) 0
    try have u71_1 : σ71 1 1 = σ56 1 1 := by first | exact o71 1 (by decide) | exact congrFun (f71 1 (by decide)) 1
    try have u71_2 : σ71 1 2 = σ56 1 2 := by first | exact o71 2 (by decide) | exact congrFun (f71 1 (by decide)) 2
    try have u71_3 : σ71 1 3 = σ56 1 3 := by first | exact o71 3 (by decide) | exact congrFun (f71 1 (by decide)) 3
    try have u71_4 : σ71 1 4 = σ56 1 4 := by first | exact o71 4 (by decide) | exact congrFun (f71 1 (by decide)) 4
    try have u71_5 : σ71 1 5 = σ56 1 5 := by first | exact o71 5 (by decide) | exact congrFun (f71 1 (by decide)) 5
    try have u71_6 : σ71 1 6 = σ56 1 6 := by first | exact o71 6 (by decide) | exact congrFun (f71 1 (by decide)) 6
    refine pe_iload_n d_K_take_74 rfl ?_
    refine pe_ri d_K_take_75 ?_
    exact ⟨hB, (fun b hb => (f71 b (by simp at hb ⊢; try omega)).trans ((f56 b (by simp at hb ⊢; try omega)).trans (rfl))), by (try dsimp only); omega⟩
  show pe_G _ _ _ _ _ _
  refine pe_aload_n d_K_take_63 rfl ?_
  refine pe_iload_n d_K_take_64 rfl ?_
  refine pe_v1i d_K_take_65 c_K_37 i_K_takePlain s_K_takePlain rfl rfl (x_K_takePlain hB (by omega) (by omega)) (fun z65 σ65 hz65 => ?_)
  obtain ⟨hB, f65, x65⟩ := hz65
  try have u65_0 : σ65 1 0 = σ 1 0 := by first | exact o65 0 (by decide) | exact congrFun (f65 1 (by decide)) 0
  try have u65_1 : σ65 1 1 = σ 1 1 := by first | exact o65 1 (by decide) | exact congrFun (f65 1 (by decide)) 1
  try have u65_2 : σ65 1 2 = σ 1 2 := by first | exact o65 2 (by decide) | exact congrFun (f65 1 (by decide)) 2
  try have u65_3 : σ65 1 3 = σ 1 3 := by first | exact o65 3 (by decide) | exact congrFun (f65 1 (by decide)) 3
  try have u65_4 : σ65 1 4 = σ 1 4 := by first | exact o65 4 (by decide) | exact congrFun (f65 1 (by decide)) 4
  try have u65_5 : σ65 1 5 = σ 1 5 := by first | exact o65 5 (by decide) | exact congrFun (f65 1 (by decide)) 5
  try have u65_6 : σ65 1 6 = σ 1 6 := by first | exact o65 6 (by decide) | exact congrFun (f65 1 (by decide)) 6
  skip
  refine pe_istore_n d_K_take_68 ?_
  refine pe_aload_n d_K_take_69 rfl ?_
  refine pe_iload_n d_K_take_70 rfl ?_
  refine pe_putiT f_K_15 g_1_6 d_K_take_71 rfl rfl 6 rfl hB (by first | exact hB _ _ | exact hB0 _ _ | exact hBt _ _ | exact ⟨by omega, by omega⟩) (fun σ71 hB e71 o71 f71 => ?_)
  try have u71_0 : σ71 1 0 = σ65 1 0 := by first | exact o71 0 (by decide) | exact congrFun (f71 1 (by decide)) 0
  try have u71_1 : σ71 1 1 = σ65 1 1 := by first | exact o71 1 (by decide) | exact congrFun (f71 1 (by decide)) 1
  try have u71_2 : σ71 1 2 = σ65 1 2 := by first | exact o71 2 (by decide) | exact congrFun (f71 1 (by decide)) 2
  try have u71_3 : σ71 1 3 = σ65 1 3 := by first | exact o71 3 (by decide) | exact congrFun (f71 1 (by decide)) 3
  try have u71_4 : σ71 1 4 = σ65 1 4 := by first | exact o71 4 (by decide) | exact congrFun (f71 1 (by decide)) 4
  try have u71_5 : σ71 1 5 = σ65 1 5 := by first | exact o71 5 (by decide) | exact congrFun (f71 1 (by decide)) 5
  try have u71_6 : σ71 1 6 = σ65 1 6 := by first | exact o71 6 (by decide) | exact congrFun (f71 1 (by decide)) 6
  refine pe_iload_n d_K_take_74 rfl ?_
  refine pe_ri d_K_take_75 ?_
  exact ⟨hB, (fun b hb => (f71 b (by simp at hb ⊢; try omega)).trans ((f65 b (by simp at hb ⊢; try omega)).trans (rfl))), by (try dsimp only); omega⟩
