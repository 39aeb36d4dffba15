theorem x_M_plain {m σ : pe_H} {s : Int → Int} {b a : Int} (hB : pe_B σ) (hA : pe_ra m σ) (hw : pe_wf m) (hk : m 5 0 ≤ 11) (hg : pe_bg (m 8) (m 0 0) (m 1 0)) (hs : s 0 = 0 ∧ s 6 = a) (hkb : σ 29 13 = 0 ∧ σ 29 15 = 0 ∧ σ 29 20 = b) (hb : 0 ≤ b ∧ b ≤ 255) (ha : pe_R a) : pe_M m_M_plain [pe_r 29, pe_i b, pe_i a] σ (pe_qv (fun σ' => pe_B σ' ∧ (∀ b, b ∉ [29, 30, 32, 33, 34, 35, 36, 31] → σ' b = σ b) ∧ (∀ j, j ∉ ([1, 2, 3, 5, 6, 7, 13, 15, 16, 17, 18, 41] : List Int) → σ' 29 j = σ 29 j) ∧ (pe_ra (pe_ePq m (pe_kk s b)) σ' ∧ pe_rk (pe_ky s b) σ'))) := by
  refine pe_in0 (lv := [some (pe_r 29), some (pe_i b), some (pe_i a)]) ?_
  have hB0 := hB
  obtain ⟨⟨⟨a1, a2, a3, a4, a5⟩, a7, a8, a9⟩, A2, A3, A4⟩ := id hA
  obtain ⟨⟨w1, w2, w3, w4, w5, w6, w7, w8⟩, W2, W3⟩ := id hw
  refine pe_iload_n d_M_plain_0 rfl ?_
  refine pe_bipush d_M_plain_1 ?_
  refine pe_icmp_ne (t := 14) d_M_plain_3 (by first | exact hB _ _ | exact hB0 _ _ | exact hBt _ _ | exact ⟨by omega, by omega⟩) (by first | exact hB _ _ | exact hB0 _ _ | exact hBt _ _ | exact ⟨by omega, by omega⟩) (fun h3 => ?_) (fun h3 => ?_)
  · skip
    refine pe_iload_n d_M_plain_14 rfl ?_
    refine pe_bipush d_M_plain_15 ?_
    refine pe_icmp_lt (t := 34) d_M_plain_17 (by first | exact hB _ _ | exact hB0 _ _ | exact hBt _ _ | exact ⟨by omega, by omega⟩) (by first | exact hB _ _ | exact hB0 _ _ | exact hBt _ _ | exact ⟨by omega, by omega⟩) (fun h17 => ?_) (fun h17 => ?_)
    · skip
      refine pe_iload_n d_M_plain_34 rfl ?_
      refine pe_sipush d_M_plain_35 ?_
      refine pe_icmp_lt (t := 129) d_M_plain_38 (by first | exact hB _ _ | exact hB0 _ _ | exact hBt _ _ | exact ⟨by omega, by omega⟩) (by first | exact hB _ _ | exact hB0 _ _ | exact hBt _ _ | exact ⟨by omega, by omega⟩) (fun h38 => ?_) (fun h38 => ?_)
      · skip
        refine pe_iload_n d_M_plain_129 rfl ?_
        refine pe_sipush d_M_plain_130 ?_
        refine pe_icmp_lt (t := 145) d_M_plain_133 (by first | exact hB _ _ | exact hB0 _ _ | exact hBt _ _ | exact ⟨by omega, by omega⟩) (by first | exact hB _ _ | exact hB0 _ _ | exact hBt _ _ | exact ⟨by omega, by omega⟩) (fun h133 => ?_) (fun h133 => ?_)
        · skip
          refine pe_aload_n d_M_plain_145 rfl ?_
          refine pe_iload_n d_M_plain_146 rfl ?_
          refine pe_iload_n d_M_plain_147 rfl ?_
          refine pe_v2v d_M_plain_148 c_M_197 i_M_control s_M_control rfl rfl (x_M_control hB hA hw hk hg (by omega) (by first | exact hB _ _ | exact hB0 _ _ | exact hBt _ _ | exact ⟨by omega, by omega⟩)) (fun σ148 hz148 => ?_)
          obtain ⟨hB, f148, o148, x148⟩ := hz148
          try have u148_0 : σ148 29 1 = σ 29 1 := by first | exact o148 1 (by decide) | exact congrFun (f148 29 (by decide)) 1
          try have u148_1 : σ148 29 2 = σ 29 2 := by first | exact o148 2 (by decide) | exact congrFun (f148 29 (by decide)) 2
          try have u148_2 : σ148 29 3 = σ 29 3 := by first | exact o148 3 (by decide) | exact congrFun (f148 29 (by decide)) 3
          try have u148_3 : σ148 29 5 = σ 29 5 := by first | exact o148 5 (by decide) | exact congrFun (f148 29 (by decide)) 5
          try have u148_4 : σ148 29 6 = σ 29 6 := by first | exact o148 6 (by decide) | exact congrFun (f148 29 (by decide)) 6
          try have u148_5 : σ148 29 7 = σ 29 7 := by first | exact o148 7 (by decide) | exact congrFun (f148 29 (by decide)) 7
          try have u148_6 : σ148 29 19 = σ 29 19 := by first | exact o148 19 (by decide) | exact congrFun (f148 29 (by decide)) 19
          try have u148_7 : σ148 29 21 = σ 29 21 := by first | exact o148 21 (by decide) | exact congrFun (f148 29 (by decide)) 21
          try have u148_8 : σ148 29 13 = σ 29 13 := by first | exact o148 13 (by decide) | exact congrFun (f148 29 (by decide)) 13
          try have u148_9 : σ148 29 14 = σ 29 14 := by first | exact o148 14 (by decide) | exact congrFun (f148 29 (by decide)) 14
          try have u148_10 : σ148 29 15 = σ 29 15 := by first | exact o148 15 (by decide) | exact congrFun (f148 29 (by decide)) 15
          try have u148_11 : σ148 29 16 = σ 29 16 := by first | exact o148 16 (by decide) | exact congrFun (f148 29 (by decide)) 16
          try have u148_12 : σ148 29 17 = σ 29 17 := by first | exact o148 17 (by decide) | exact congrFun (f148 29 (by decide)) 17
          try have u148_13 : σ148 29 18 = σ 29 18 := by first | exact o148 18 (by decide) | exact congrFun (f148 29 (by decide)) 18
          try have u148_14 : σ148 29 20 = σ 29 20 := by first | exact o148 20 (by decide) | exact congrFun (f148 29 (by decide)) 20
          skip
          refine pe_rv d_M_plain_151 ?_
          first
          | (exfalso; omega)
          | (have hA2 := pe_ra_f hA (fun b hb => (f8 b (by rintro rfl; simp at hb))) (fun j hj => (o8 j (by rintro rfl; simp at hj)))
             exact ⟨hB, (fun b hb => (f148 b (by simp at hb ⊢; try omega)).trans (rfl)), (fun j hj => (o148 j (by simp at hj ⊢; try omega)).trans (rfl)), by rw [pe_kk_p hs.1, if_pos (by omega), pe_q_n1]; exact hA2, pe_rk_e hs.1 (by omega) (by omega)⟩)
          | (have hA2 := pe_ra_f hA (fun b hb => ((f123 b (by rintro rfl; simp at hb)).trans ((f103 b (by rintro rfl; simp at hb)).trans ((f83 b (by rintro rfl; simp at hb)).trans (f61 b (by rintro rfl; simp at hb)))))) (fun j hj => ((o123 j (by rintro rfl; simp at hj)).trans ((o103 j (by rintro rfl; simp at hj)).trans ((o83 j (by rintro rfl; simp at hj)).trans (o61 j (by rintro rfl; simp at hj))))))
             exact ⟨hB, (fun b hb => (f148 b (by simp at hb ⊢; try omega)).trans (rfl)), (fun j hj => (o148 j (by simp at hj ⊢; try omega)).trans (rfl)), by rw [pe_kk_p hs.1, if_pos (by omega), pe_q_n1]; exact hA2, pe_rk_l hs.1 (by omega) (by omega)⟩)
          | (exact ⟨hB, (fun b hb => (f148 b (by simp at hb ⊢; try omega)).trans (rfl)), (fun j hj => (o148 j (by simp at hj ⊢; try omega)).trans (rfl)), by rw [pe_kk_p hs.1, if_neg (by omega), if_neg (by omega), if_neg (by omega), pe_q_c (by omega)]; exact x28, pe_rk_p hs.1 (by omega) (by omega)⟩)
          | (exact ⟨hB, (fun b hb => (f148 b (by simp at hb ⊢; try omega)).trans (rfl)), (fun j hj => (o148 j (by simp at hj ⊢; try omega)).trans (rfl)), by rw [pe_kk_p hs.1, if_neg (by omega), if_pos (by omega), pe_q_c (by omega)]; exact x139, pe_rk_p hs.1 (by omega) (by omega)⟩)
          | (exact ⟨hB, (fun b hb => (f148 b (by simp at hb ⊢; try omega)).trans (rfl)), (fun j hj => (o148 j (by simp at hj ⊢; try omega)).trans (rfl)), by rw [pe_kk_p hs.1, if_neg (by omega), if_neg (by omega), hs.2]; exact x148, pe_rk_p hs.1 (by omega) (by omega)⟩)
        · skip
          refine pe_aload_n d_M_plain_136 rfl ?_
          refine pe_ldc q_M_196 d_M_plain_137 (z := 65533) rfl ?_
          refine pe_v1v d_M_plain_139 c_M_144 i_M_character s_M_character rfl rfl (x_M_character hB hA hw hk hg (by first | exact hB _ _ | exact hB0 _ _ | exact hBt _ _ | exact ⟨by omega, by omega⟩)) (fun σ139 hz139 => ?_)
          obtain ⟨hB, f139, o139, x139⟩ := hz139
          try have u139_0 : σ139 29 1 = σ 29 1 := by first | exact o139 1 (by decide) | exact congrFun (f139 29 (by decide)) 1
          try have u139_1 : σ139 29 2 = σ 29 2 := by first | exact o139 2 (by decide) | exact congrFun (f139 29 (by decide)) 2
          try have u139_2 : σ139 29 3 = σ 29 3 := by first | exact o139 3 (by decide) | exact congrFun (f139 29 (by decide)) 3
          try have u139_3 : σ139 29 5 = σ 29 5 := by first | exact o139 5 (by decide) | exact congrFun (f139 29 (by decide)) 5
          try have u139_4 : σ139 29 6 = σ 29 6 := by first | exact o139 6 (by decide) | exact congrFun (f139 29 (by decide)) 6
          try have u139_5 : σ139 29 7 = σ 29 7 := by first | exact o139 7 (by decide) | exact congrFun (f139 29 (by decide)) 7
          try have u139_6 : σ139 29 19 = σ 29 19 := by first | exact o139 19 (by decide) | exact congrFun (f139 29 (by decide)) 19
          try have u139_7 : σ139 29 21 = σ 29 21 := by first | exact o139 21 (by decide) | exact congrFun (f139 29 (by decide)) 21
          try have u139_8 : σ139 29 13 = σ 29 13 := by first | exact o139 13 (by decide) | exact congrFun (f139 29 (by decide)) 13
          try have u139_9 : σ139 29 14 = σ 29 14 := by first | exact o139 14 (by decide) | exact congrFun (f139 29 (by decide)) 14
          try have u139_10 : σ139 29 15 = σ 29 15 := by first | exact o139 15 (by decide) | exact congrFun (f139 29 (by decide)) 15
          try have u139_11 : σ139 29 16 = σ 29 16 := by first | exact o139 16 (by decide) | exact congrFun (f139 29 (by decide)) 16
          try have u139_12 : σ139 29 17 = σ 29 17 := by first | exact o139 17 (by decide) | exact congrFun (f139 29 (by decide)) 17
          try have u139_13 : σ139 29 18 = σ 29 18 := by first | exact o139 18 (by decide) | exact congrFun (f139 29 (by decide)) 18
          try have u139_14 : σ139 29 20 = σ 29 20 := by first | exact o139 20 (by decide) | exact congrFun (f139 29 (by decide)) 20
          skip
          refine pe_goto (t := 151) d_M_plain_142 ?_
          refine pe_rv d_M_plain_151 ?_
          first
          | (exfalso; omega)
          | (have hA2 := pe_ra_f hA (fun b hb => (f8 b (by rintro rfl; simp at hb))) (fun j hj => (o8 j (by rintro rfl; simp at hj)))
             exact ⟨hB, (fun b hb => (f139 b (by simp at hb ⊢; try omega)).trans (rfl)), (fun j hj => (o139 j (by simp at hj ⊢; try omega)).trans (rfl)), by rw [pe_kk_p hs.1, if_pos (by omega), pe_q_n1]; exact hA2, pe_rk_e hs.1 (by omega) (by omega)⟩)
          | (have hA2 := pe_ra_f hA (fun b hb => ((f123 b (by rintro rfl; simp at hb)).trans ((f103 b (by rintro rfl; simp at hb)).trans ((f83 b (by rintro rfl; simp at hb)).trans (f61 b (by rintro rfl; simp at hb)))))) (fun j hj => ((o123 j (by rintro rfl; simp at hj)).trans ((o103 j (by rintro rfl; simp at hj)).trans ((o83 j (by rintro rfl; simp at hj)).trans (o61 j (by rintro rfl; simp at hj))))))
             exact ⟨hB, (fun b hb => (f139 b (by simp at hb ⊢; try omega)).trans (rfl)), (fun j hj => (o139 j (by simp at hj ⊢; try omega)).trans (rfl)), by rw [pe_kk_p hs.1, if_pos (by omega), pe_q_n1]; exact hA2, pe_rk_l hs.1 (by omega) (by omega)⟩)
          | (exact ⟨hB, (fun b hb => (f139 b (by simp at hb ⊢; try omega)).trans (rfl)), (fun j hj => (o139 j (by simp at hj ⊢; try omega)).trans (rfl)), by rw [pe_kk_p hs.1, if_neg (by omega), if_neg (by omega), if_neg (by omega), pe_q_c (by omega)]; exact x28, pe_rk_p hs.1 (by omega) (by omega)⟩)
          | (exact ⟨hB, (fun b hb => (f139 b (by simp at hb ⊢; try omega)).trans (rfl)), (fun j hj => (o139 j (by simp at hj ⊢; try omega)).trans (rfl)), by rw [pe_kk_p hs.1, if_neg (by omega), if_pos (by omega), pe_q_c (by omega)]; exact x139, pe_rk_p hs.1 (by omega) (by omega)⟩)
          | (exact ⟨hB, (fun b hb => (f139 b (by simp at hb ⊢; try omega)).trans (rfl)), (fun j hj => (o139 j (by simp at hj ⊢; try omega)).trans (rfl)), by rw [pe_kk_p hs.1, if_neg (by omega), if_neg (by omega), hs.2]; exact x148, pe_rk_p hs.1 (by omega) (by omega)⟩)
      · skip
        refine pe_iload_n d_M_plain_41 rfl ?_
        refine pe_sipush d_M_plain_42 ?_
        refine pe_icmp_gt (t := 129) d_M_plain_45 (by first | exact hB _ _ | exact hB0 _ _ | exact hBt _ _ | exact ⟨by omega, by omega⟩) (by first | exact hB _ _ | exact hB0 _ _ | exact hBt _ _ | exact ⟨by omega, by omega⟩) (fun h45 => ?_) (fun h45 => ?_)
        · skip
          refine pe_iload_n d_M_plain_129 rfl ?_
          refine pe_sipush d_M_plain_130 ?_
          refine pe_icmp_lt (t := 145) d_M_plain_133 (by first | exact hB _ _ | exact hB0 _ _ | exact hBt _ _ | exact ⟨by omega, by omega⟩) (by first | exact hB _ _ | exact hB0 _ _ | exact hBt _ _ | exact ⟨by omega, by omega⟩) (fun h133 => ?_) (fun h133 => ?_)
          · skip
            refine pe_aload_n d_M_plain_145 rfl ?_
            refine pe_iload_n d_M_plain_146 rfl ?_
            refine pe_iload_n d_M_plain_147 rfl ?_
            refine pe_v2v d_M_plain_148 c_M_197 i_M_control s_M_control rfl rfl (x_M_control hB hA hw hk hg (by omega) (by first | exact hB _ _ | exact hB0 _ _ | exact hBt _ _ | exact ⟨by omega, by omega⟩)) (fun σ148 hz148 => ?_)
            obtain ⟨hB, f148, o148, x148⟩ := hz148
            try have u148_0 : σ148 29 1 = σ 29 1 := by first | exact o148 1 (by decide) | exact congrFun (f148 29 (by decide)) 1
            try have u148_1 : σ148 29 2 = σ 29 2 := by first | exact o148 2 (by decide) | exact congrFun (f148 29 (by decide)) 2
            try have u148_2 : σ148 29 3 = σ 29 3 := by first | exact o148 3 (by decide) | exact congrFun (f148 29 (by decide)) 3
            try have u148_3 : σ148 29 5 = σ 29 5 := by first | exact o148 5 (by decide) | exact congrFun (f148 29 (by decide)) 5
            try have u148_4 : σ148 29 6 = σ 29 6 := by first | exact o148 6 (by decide) | exact congrFun (f148 29 (by decide)) 6
            try have u148_5 : σ148 29 7 = σ 29 7 := by first | exact o148 7 (by decide) | exact congrFun (f148 29 (by decide)) 7
            try have u148_6 : σ148 29 19 = σ 29 19 := by first | exact o148 19 (by decide) | exact congrFun (f148 29 (by decide)) 19
            try have u148_7 : σ148 29 21 = σ 29 21 := by first | exact o148 21 (by decide) | exact congrFun (f148 29 (by decide)) 21
            try have u148_8 : σ148 29 13 = σ 29 13 := by first | exact o148 13 (by decide) | exact congrFun (f148 29 (by decide)) 13
            try have u148_9 : σ148 29 14 = σ 29 14 := by first | exact o148 14 (by decide) | exact congrFun (f148 29 (by decide)) 14
            try have u148_10 : σ148 29 15 = σ 29 15 := by first | exact o148 15 (by decide) | exact congrFun (f148 29 (by decide)) 15
            try have u148_11 : σ148 29 16 = σ 29 16 := by first | exact o148 16 (by decide) | exact congrFun (f148 29 (by decide)) 16
            try have u148_12 : σ148 29 17 = σ 29 17 := by first | exact o148 17 (by decide) | exact congrFun (f148 29 (by decide)) 17
            try have u148_13 : σ148 29 18 = σ 29 18 := by first | exact o148 18 (by decide) | exact congrFun (f148 29 (by decide)) 18
            try have u148_14 : σ148 29 20 = σ 29 20 := by first | exact o148 20 (by decide) | exact congrFun (f148 29 (by decide)) 20
            skip
            refine pe_rv d_M_plain_151 ?_
            first
            | (exfalso; omega)
            | (have hA2 := pe_ra_f hA (fun b hb => (f8 b (by rintro rfl; simp at hb))) (fun j hj => (o8 j (by rintro rfl; simp at hj)))
               exact ⟨hB, (fun b hb => (f148 b (by simp at hb ⊢; try omega)).trans (rfl)), (fun j hj => (o148 j (by simp at hj ⊢; try omega)).trans (rfl)), by rw [pe_kk_p hs.1, if_pos (by omega), pe_q_n1]; exact hA2, pe_rk_e hs.1 (by omega) (by omega)⟩)
            | (have hA2 := pe_ra_f hA (fun b hb => ((f123 b (by rintro rfl; simp at hb)).trans ((f103 b (by rintro rfl; simp at hb)).trans ((f83 b (by rintro rfl; simp at hb)).trans (f61 b (by rintro rfl; simp at hb)))))) (fun j hj => ((o123 j (by rintro rfl; simp at hj)).trans ((o103 j (by rintro rfl; simp at hj)).trans ((o83 j (by rintro rfl; simp at hj)).trans (o61 j (by rintro rfl; simp at hj))))))
               exact ⟨hB, (fun b hb => (f148 b (by simp at hb ⊢; try omega)).trans (rfl)), (fun j hj => (o148 j (by simp at hj ⊢; try omega)).trans (rfl)), by rw [pe_kk_p hs.1, if_pos (by omega), pe_q_n1]; exact hA2, pe_rk_l hs.1 (by omega) (by omega)⟩)
            | (exact ⟨hB, (fun b hb => (f148 b (by simp at hb ⊢; try omega)).trans (rfl)), (fun j hj => (o148 j (by simp at hj ⊢; try omega)).trans (rfl)), by rw [pe_kk_p hs.1, if_neg (by omega), if_neg (by omega), if_neg (by omega), pe_q_c (by omega)]; exact x28, pe_rk_p hs.1 (by omega) (by omega)⟩)
            | (exact ⟨hB, (fun b hb => (f148 b (by simp at hb ⊢; try omega)).trans (rfl)), (fun j hj => (o148 j (by simp at hj ⊢; try omega)).trans (rfl)), by rw [pe_kk_p hs.1, if_neg (by omega), if_pos (by omega), pe_q_c (by omega)]; exact x139, pe_rk_p hs.1 (by omega) (by omega)⟩)
            | (exact ⟨hB, (fun b hb => (f148 b (by simp at hb ⊢; try omega)).trans (rfl)), (fun j hj => (o148 j (by simp at hj ⊢; try omega)).trans (rfl)), by rw [pe_kk_p hs.1, if_neg (by omega), if_neg (by omega), hs.2]; exact x148, pe_rk_p hs.1 (by omega) (by omega)⟩)
          · skip
            refine pe_aload_n d_M_plain_136 rfl ?_
            refine pe_ldc q_M_196 d_M_plain_137 (z := 65533) rfl ?_
            refine pe_v1v d_M_plain_139 c_M_144 i_M_character s_M_character rfl rfl (x_M_character hB hA hw hk hg (by first | exact hB _ _ | exact hB0 _ _ | exact hBt _ _ | exact ⟨by omega, by omega⟩)) (fun σ139 hz139 => ?_)
            obtain ⟨hB, f139, o139, x139⟩ := hz139
            try have u139_0 : σ139 29 1 = σ 29 1 := by first | exact o139 1 (by decide) | exact congrFun (f139 29 (by decide)) 1
            try have u139_1 : σ139 29 2 = σ 29 2 := by first | exact o139 2 (by decide) | exact congrFun (f139 29 (by decide)) 2
            try have u139_2 : σ139 29 3 = σ 29 3 := by first | exact o139 3 (by decide) | exact congrFun (f139 29 (by decide)) 3
            try have u139_3 : σ139 29 5 = σ 29 5 := by first | exact o139 5 (by decide) | exact congrFun (f139 29 (by decide)) 5
            try have u139_4 : σ139 29 6 = σ 29 6 := by first | exact o139 6 (by decide) | exact congrFun (f139 29 (by decide)) 6
            try have u139_5 : σ139 29 7 = σ 29 7 := by first | exact o139 7 (by decide) | exact congrFun (f139 29 (by decide)) 7
            try have u139_6 : σ139 29 19 = σ 29 19 := by first | exact o139 19 (by decide) | exact congrFun (f139 29 (by decide)) 19
            try have u139_7 : σ139 29 21 = σ 29 21 := by first | exact o139 21 (by decide) | exact congrFun (f139 29 (by decide)) 21
            try have u139_8 : σ139 29 13 = σ 29 13 := by first | exact o139 13 (by decide) | exact congrFun (f139 29 (by decide)) 13
            try have u139_9 : σ139 29 14 = σ 29 14 := by first | exact o139 14 (by decide) | exact congrFun (f139 29 (by decide)) 14
            try have u139_10 : σ139 29 15 = σ 29 15 := by first | exact o139 15 (by decide) | exact congrFun (f139 29 (by decide)) 15
            try have u139_11 : σ139 29 16 = σ 29 16 := by first | exact o139 16 (by decide) | exact congrFun (f139 29 (by decide)) 16
            try have u139_12 : σ139 29 17 = σ 29 17 := by first | exact o139 17 (by decide) | exact congrFun (f139 29 (by decide)) 17
            try have u139_13 : σ139 29 18 = σ 29 18 := by first | exact o139 18 (by decide) | exact congrFun (f139 29 (by decide)) 18
            try have u139_14 : σ139 29 20 = σ 29 20 := by first | exact o139 20 (by decide) | exact congrFun (f139 29 (by decide)) 20
            skip
            refine pe_goto (t := 151) d_M_plain_142 ?_
            refine pe_rv d_M_plain_151 ?_
            first
            | (exfalso; omega)
            | (have hA2 := pe_ra_f hA (fun b hb => (f8 b (by rintro rfl; simp at hb))) (fun j hj => (o8 j (by rintro rfl; simp at hj)))
               exact ⟨hB, (fun b hb => (f139 b (by simp at hb ⊢; try omega)).trans (rfl)), (fun j hj => (o139 j (by simp at hj ⊢; try omega)).trans (rfl)), by rw [pe_kk_p hs.1, if_pos (by omega), pe_q_n1]; exact hA2, pe_rk_e hs.1 (by omega) (by omega)⟩)
            | (have hA2 := pe_ra_f hA (fun b hb => ((f123 b (by rintro rfl; simp at hb)).trans ((f103 b (by rintro rfl; simp at hb)).trans ((f83 b (by rintro rfl; simp at hb)).trans (f61 b (by rintro rfl; simp at hb)))))) (fun j hj => ((o123 j (by rintro rfl; simp at hj)).trans ((o103 j (by rintro rfl; simp at hj)).trans ((o83 j (by rintro rfl; simp at hj)).trans (o61 j (by rintro rfl; simp at hj))))))
               exact ⟨hB, (fun b hb => (f139 b (by simp at hb ⊢; try omega)).trans (rfl)), (fun j hj => (o139 j (by simp at hj ⊢; try omega)).trans (rfl)), by rw [pe_kk_p hs.1, if_pos (by omega), pe_q_n1]; exact hA2, pe_rk_l hs.1 (by omega) (by omega)⟩)
            | (exact ⟨hB, (fun b hb => (f139 b (by simp at hb ⊢; try omega)).trans (rfl)), (fun j hj => (o139 j (by simp at hj ⊢; try omega)).trans (rfl)), by rw [pe_kk_p hs.1, if_neg (by omega), if_neg (by omega), if_neg (by omega), pe_q_c (by omega)]; exact x28, pe_rk_p hs.1 (by omega) (by omega)⟩)
            | (exact ⟨hB, (fun b hb => (f139 b (by simp at hb ⊢; try omega)).trans (rfl)), (fun j hj => (o139 j (by simp at hj ⊢; try omega)).trans (rfl)), by rw [pe_kk_p hs.1, if_neg (by omega), if_pos (by omega), pe_q_c (by omega)]; exact x139, pe_rk_p hs.1 (by omega) (by omega)⟩)
            | (exact ⟨hB, (fun b hb => (f139 b (by simp at hb ⊢; try omega)).trans (rfl)), (fun j hj => (o139 j (by simp at hj ⊢; try omega)).trans (rfl)), by rw [pe_kk_p hs.1, if_neg (by omega), if_neg (by omega), hs.2]; exact x148, pe_rk_p hs.1 (by omega) (by omega)⟩)
        · skip
          refine pe_aload_n d_M_plain_48 rfl ?_
          refine pe_iload_n d_M_plain_49 rfl ?_
          refine pe_sipush d_M_plain_50 ?_
          refine pe_icmp_ge (t := 60) d_M_plain_53 (by first | exact hB _ _ | exact hB0 _ _ | exact hBt _ _ | exact ⟨by omega, by omega⟩) (by first | exact hB _ _ | exact hB0 _ _ | exact hBt _ _ | exact ⟨by omega, by omega⟩) (fun h53 => ?_) (fun h53 => ?_)
          · skip
            refine pe_iconst d_M_plain_60 ?_
            refine pe_putiT f_M_184 g_11_15 d_M_plain_61 rfl rfl 15 rfl hB (by first | exact hB _ _ | exact hB0 _ _ | exact hBt _ _ | exact ⟨by omega, by omega⟩) (fun σ61 hB e61 o61 f61 => ?_)
            try have u61_0 : σ61 29 1 = σ 29 1 := by first | exact o61 1 (by decide) | exact congrFun (f61 29 (by decide)) 1
            try have u61_1 : σ61 29 2 = σ 29 2 := by first | exact o61 2 (by decide) | exact congrFun (f61 29 (by decide)) 2
            try have u61_2 : σ61 29 3 = σ 29 3 := by first | exact o61 3 (by decide) | exact congrFun (f61 29 (by decide)) 3
            try have u61_3 : σ61 29 5 = σ 29 5 := by first | exact o61 5 (by decide) | exact congrFun (f61 29 (by decide)) 5
            try have u61_4 : σ61 29 6 = σ 29 6 := by first | exact o61 6 (by decide) | exact congrFun (f61 29 (by decide)) 6
            try have u61_5 : σ61 29 7 = σ 29 7 := by first | exact o61 7 (by decide) | exact congrFun (f61 29 (by decide)) 7
            try have u61_6 : σ61 29 19 = σ 29 19 := by first | exact o61 19 (by decide) | exact congrFun (f61 29 (by decide)) 19
            try have u61_7 : σ61 29 21 = σ 29 21 := by first | exact o61 21 (by decide) | exact congrFun (f61 29 (by decide)) 21
            try have u61_8 : σ61 29 13 = σ 29 13 := by first | exact o61 13 (by decide) | exact congrFun (f61 29 (by decide)) 13
            try have u61_9 : σ61 29 14 = σ 29 14 := by first | exact o61 14 (by decide) | exact congrFun (f61 29 (by decide)) 14
            try have u61_10 : σ61 29 15 = σ 29 15 := by first | exact o61 15 (by decide) | exact congrFun (f61 29 (by decide)) 15
            try have u61_11 : σ61 29 16 = σ 29 16 := by first | exact o61 16 (by decide) | exact congrFun (f61 29 (by decide)) 16
            try have u61_12 : σ61 29 17 = σ 29 17 := by first | exact o61 17 (by decide) | exact congrFun (f61 29 (by decide)) 17
            try have u61_13 : σ61 29 18 = σ 29 18 := by first | exact o61 18 (by decide) | exact congrFun (f61 29 (by decide)) 18
            try have u61_14 : σ61 29 20 = σ 29 20 := by first | exact o61 20 (by decide) | exact congrFun (f61 29 (by decide)) 20
            refine pe_aload_n d_M_plain_64 rfl ?_
            refine pe_iload_n d_M_plain_65 rfl ?_
            refine pe_sipush d_M_plain_66 ?_
            refine pe_icmp_ge (t := 79) d_M_plain_69 (by first | exact hB _ _ | exact hB0 _ _ | exact hBt _ _ | exact ⟨by omega, by omega⟩) (by first | exact hB _ _ | exact hB0 _ _ | exact hBt _ _ | exact ⟨by omega, by omega⟩) (fun h69 => ?_) (fun h69 => ?_)
            · skip
              refine pe_iload_n d_M_plain_79 rfl ?_
              refine pe_bipush d_M_plain_80 ?_
              refine pe_iand d_M_plain_82 (pe_and 4 16 (by omega) (by omega)) ?_
              refine pe_putiT f_M_187 g_11_16 d_M_plain_83 rfl rfl 16 rfl hB (by first | exact hB _ _ | exact hB0 _ _ | exact hBt _ _ | exact ⟨by omega, by omega⟩) (fun σ83 hB e83 o83 f83 => ?_)
              try have u83_0 : σ83 29 1 = σ61 29 1 := by first | exact o83 1 (by decide) | exact congrFun (f83 29 (by decide)) 1
              try have u83_1 : σ83 29 2 = σ61 29 2 := by first | exact o83 2 (by decide) | exact congrFun (f83 29 (by decide)) 2
              try have u83_2 : σ83 29 3 = σ61 29 3 := by first | exact o83 3 (by decide) | exact congrFun (f83 29 (by decide)) 3
              try have u83_3 : σ83 29 5 = σ61 29 5 := by first | exact o83 5 (by decide) | exact congrFun (f83 29 (by decide)) 5
              try have u83_4 : σ83 29 6 = σ61 29 6 := by first | exact o83 6 (by decide) | exact congrFun (f83 29 (by decide)) 6
              try have u83_5 : σ83 29 7 = σ61 29 7 := by first | exact o83 7 (by decide) | exact congrFun (f83 29 (by decide)) 7
              try have u83_6 : σ83 29 19 = σ61 29 19 := by first | exact o83 19 (by decide) | exact congrFun (f83 29 (by decide)) 19
              try have u83_7 : σ83 29 21 = σ61 29 21 := by first | exact o83 21 (by decide) | exact congrFun (f83 29 (by decide)) 21
              try have u83_8 : σ83 29 13 = σ61 29 13 := by first | exact o83 13 (by decide) | exact congrFun (f83 29 (by decide)) 13
              try have u83_9 : σ83 29 14 = σ61 29 14 := by first | exact o83 14 (by decide) | exact congrFun (f83 29 (by decide)) 14
              try have u83_10 : σ83 29 15 = σ61 29 15 := by first | exact o83 15 (by decide) | exact congrFun (f83 29 (by decide)) 15
              try have u83_11 : σ83 29 16 = σ61 29 16 := by first | exact o83 16 (by decide) | exact congrFun (f83 29 (by decide)) 16
              try have u83_12 : σ83 29 17 = σ61 29 17 := by first | exact o83 17 (by decide) | exact congrFun (f83 29 (by decide)) 17
              try have u83_13 : σ83 29 18 = σ61 29 18 := by first | exact o83 18 (by decide) | exact congrFun (f83 29 (by decide)) 18
              try have u83_14 : σ83 29 20 = σ61 29 20 := by first | exact o83 20 (by decide) | exact congrFun (f83 29 (by decide)) 20
              refine pe_aload_n d_M_plain_86 rfl ?_
              refine pe_iload_n d_M_plain_87 rfl ?_
              refine pe_sipush d_M_plain_88 ?_
              refine pe_icmp_ne (t := 100) d_M_plain_91 (by first | exact hB _ _ | exact hB0 _ _ | exact hBt _ _ | exact ⟨by omega, by omega⟩) (by first | exact hB _ _ | exact hB0 _ _ | exact hBt _ _ | exact ⟨by omega, by omega⟩) (fun h91 => ?_) (fun h91 => ?_)
              · skip
                refine pe_sipush d_M_plain_100 ?_
                refine pe_putiT f_M_190 g_11_17 d_M_plain_103 rfl rfl 17 rfl hB (by first | exact hB _ _ | exact hB0 _ _ | exact hBt _ _ | exact ⟨by omega, by omega⟩) (fun σ103 hB e103 o103 f103 => ?_)
                try have u103_0 : σ103 29 1 = σ83 29 1 := by first | exact o103 1 (by decide) | exact congrFun (f103 29 (by decide)) 1
                try have u103_1 : σ103 29 2 = σ83 29 2 := by first | exact o103 2 (by decide) | exact congrFun (f103 29 (by decide)) 2
                try have u103_2 : σ103 29 3 = σ83 29 3 := by first | exact o103 3 (by decide) | exact congrFun (f103 29 (by decide)) 3
                try have u103_3 : σ103 29 5 = σ83 29 5 := by first | exact o103 5 (by decide) | exact congrFun (f103 29 (by decide)) 5
                try have u103_4 : σ103 29 6 = σ83 29 6 := by first | exact o103 6 (by decide) | exact congrFun (f103 29 (by decide)) 6
                try have u103_5 : σ103 29 7 = σ83 29 7 := by first | exact o103 7 (by decide) | exact congrFun (f103 29 (by decide)) 7
                try have u103_6 : σ103 29 19 = σ83 29 19 := by first | exact o103 19 (by decide) | exact congrFun (f103 29 (by decide)) 19
                try have u103_7 : σ103 29 21 = σ83 29 21 := by first | exact o103 21 (by decide) | exact congrFun (f103 29 (by decide)) 21
                try have u103_8 : σ103 29 13 = σ83 29 13 := by first | exact o103 13 (by decide) | exact congrFun (f103 29 (by decide)) 13
                try have u103_9 : σ103 29 14 = σ83 29 14 := by first | exact o103 14 (by decide) | exact congrFun (f103 29 (by decide)) 14
                try have u103_10 : σ103 29 15 = σ83 29 15 := by first | exact o103 15 (by decide) | exact congrFun (f103 29 (by decide)) 15
                try have u103_11 : σ103 29 16 = σ83 29 16 := by first | exact o103 16 (by decide) | exact congrFun (f103 29 (by decide)) 16
                try have u103_12 : σ103 29 17 = σ83 29 17 := by first | exact o103 17 (by decide) | exact congrFun (f103 29 (by decide)) 17
                try have u103_13 : σ103 29 18 = σ83 29 18 := by first | exact o103 18 (by decide) | exact congrFun (f103 29 (by decide)) 18
                try have u103_14 : σ103 29 20 = σ83 29 20 := by first | exact o103 20 (by decide) | exact congrFun (f103 29 (by decide)) 20
                refine pe_aload_n d_M_plain_106 rfl ?_
                refine pe_iload_n d_M_plain_107 rfl ?_
                refine pe_sipush d_M_plain_108 ?_
                refine pe_icmp_ne (t := 120) d_M_plain_111 (by first | exact hB _ _ | exact hB0 _ _ | exact hBt _ _ | exact ⟨by omega, by omega⟩) (by first | exact hB _ _ | exact hB0 _ _ | exact hBt _ _ | exact ⟨by omega, by omega⟩) (fun h111 => ?_) (fun h111 => ?_)
                · skip
                  refine pe_sipush d_M_plain_120 ?_
                  refine pe_putiT f_M_193 g_11_18 d_M_plain_123 rfl rfl 18 rfl hB (by first | exact hB _ _ | exact hB0 _ _ | exact hBt _ _ | exact ⟨by omega, by omega⟩) (fun σ123 hB e123 o123 f123 => ?_)
                  try have u123_0 : σ123 29 1 = σ103 29 1 := by first | exact o123 1 (by decide) | exact congrFun (f123 29 (by decide)) 1
                  try have u123_1 : σ123 29 2 = σ103 29 2 := by first | exact o123 2 (by decide) | exact congrFun (f123 29 (by decide)) 2
                  try have u123_2 : σ123 29 3 = σ103 29 3 := by first | exact o123 3 (by decide) | exact congrFun (f123 29 (by decide)) 3
                  try have u123_3 : σ123 29 5 = σ103 29 5 := by first | exact o123 5 (by decide) | exact congrFun (f123 29 (by decide)) 5
                  try have u123_4 : σ123 29 6 = σ103 29 6 := by first | exact o123 6 (by decide) | exact congrFun (f123 29 (by decide)) 6
                  try have u123_5 : σ123 29 7 = σ103 29 7 := by first | exact o123 7 (by decide) | exact congrFun (f123 29 (by decide)) 7
                  try have u123_6 : σ123 29 19 = σ103 29 19 := by first | exact o123 19 (by decide) | exact congrFun (f123 29 (by decide)) 19
                  try have u123_7 : σ123 29 21 = σ103 29 21 := by first | exact o123 21 (by decide) | exact congrFun (f123 29 (by decide)) 21
                  try have u123_8 : σ123 29 13 = σ103 29 13 := by first | exact o123 13 (by decide) | exact congrFun (f123 29 (by decide)) 13
                  try have u123_9 : σ123 29 14 = σ103 29 14 := by first | exact o123 14 (by decide) | exact congrFun (f123 29 (by decide)) 14
                  try have u123_10 : σ123 29 15 = σ103 29 15 := by first | exact o123 15 (by decide) | exact congrFun (f123 29 (by decide)) 15
                  try have u123_11 : σ123 29 16 = σ103 29 16 := by first | exact o123 16 (by decide) | exact congrFun (f123 29 (by decide)) 16
                  try have u123_12 : σ123 29 17 = σ103 29 17 := by first | exact o123 17 (by decide) | exact congrFun (f123 29 (by decide)) 17
                  try have u123_13 : σ123 29 18 = σ103 29 18 := by first | exact o123 18 (by decide) | exact congrFun (f123 29 (by decide)) 18
                  try have u123_14 : σ123 29 20 = σ103 29 20 := by first | exact o123 20 (by decide) | exact congrFun (f123 29 (by decide)) 20
                  refine pe_goto (t := 151) d_M_plain_126 ?_
                  refine pe_rv d_M_plain_151 ?_
                  first
                  | (exfalso; omega)
                  | (have hA2 := pe_ra_f hA (fun b hb => (f8 b (by rintro rfl; simp at hb))) (fun j hj => (o8 j (by rintro rfl; simp at hj)))
                     exact ⟨hB, (fun b hb => (f123 b (by simp at hb ⊢; try omega)).trans ((f103 b (by simp at hb ⊢; try omega)).trans ((f83 b (by simp at hb ⊢; try omega)).trans ((f61 b (by simp at hb ⊢; try omega)).trans (rfl))))), (fun j hj => (o123 j (by simp at hj ⊢; try omega)).trans ((o103 j (by simp at hj ⊢; try omega)).trans ((o83 j (by simp at hj ⊢; try omega)).trans ((o61 j (by simp at hj ⊢; try omega)).trans (rfl))))), by rw [pe_kk_p hs.1, if_pos (by omega), pe_q_n1]; exact hA2, pe_rk_e hs.1 (by omega) (by omega)⟩)
                  | (have hA2 := pe_ra_f hA (fun b hb => ((f123 b (by rintro rfl; simp at hb)).trans ((f103 b (by rintro rfl; simp at hb)).trans ((f83 b (by rintro rfl; simp at hb)).trans (f61 b (by rintro rfl; simp at hb)))))) (fun j hj => ((o123 j (by rintro rfl; simp at hj)).trans ((o103 j (by rintro rfl; simp at hj)).trans ((o83 j (by rintro rfl; simp at hj)).trans (o61 j (by rintro rfl; simp at hj))))))
                     exact ⟨hB, (fun b hb => (f123 b (by simp at hb ⊢; try omega)).trans ((f103 b (by simp at hb ⊢; try omega)).trans ((f83 b (by simp at hb ⊢; try omega)).trans ((f61 b (by simp at hb ⊢; try omega)).trans (rfl))))), (fun j hj => (o123 j (by simp at hj ⊢; try omega)).trans ((o103 j (by simp at hj ⊢; try omega)).trans ((o83 j (by simp at hj ⊢; try omega)).trans ((o61 j (by simp at hj ⊢; try omega)).trans (rfl))))), by rw [pe_kk_p hs.1, if_pos (by omega), pe_q_n1]; exact hA2, pe_rk_l hs.1 (by omega) (by omega)⟩)
                  | (exact ⟨hB, (fun b hb => (f123 b (by simp at hb ⊢; try omega)).trans ((f103 b (by simp at hb ⊢; try omega)).trans ((f83 b (by simp at hb ⊢; try omega)).trans ((f61 b (by simp at hb ⊢; try omega)).trans (rfl))))), (fun j hj => (o123 j (by simp at hj ⊢; try omega)).trans ((o103 j (by simp at hj ⊢; try omega)).trans ((o83 j (by simp at hj ⊢; try omega)).trans ((o61 j (by simp at hj ⊢; try omega)).trans (rfl))))), by rw [pe_kk_p hs.1, if_neg (by omega), if_neg (by omega), if_neg (by omega), pe_q_c (by omega)]; exact x28, pe_rk_p hs.1 (by omega) (by omega)⟩)
                  | (exact ⟨hB, (fun b hb => (f123 b (by simp at hb ⊢; try omega)).trans ((f103 b (by simp at hb ⊢; try omega)).trans ((f83 b (by simp at hb ⊢; try omega)).trans ((f61 b (by simp at hb ⊢; try omega)).trans (rfl))))), (fun j hj => (o123 j (by simp at hj ⊢; try omega)).trans ((o103 j (by simp at hj ⊢; try omega)).trans ((o83 j (by simp at hj ⊢; try omega)).trans ((o61 j (by simp at hj ⊢; try omega)).trans (rfl))))), by rw [pe_kk_p hs.1, if_neg (by omega), if_pos (by omega), pe_q_c (by omega)]; exact x139, pe_rk_p hs.1 (by omega) (by omega)⟩)
                  | (exact ⟨hB, (fun b hb => (f123 b (by simp at hb ⊢; try omega)).trans ((f103 b (by simp at hb ⊢; try omega)).trans ((f83 b (by simp at hb ⊢; try omega)).trans ((f61 b (by simp at hb ⊢; try omega)).trans (rfl))))), (fun j hj => (o123 j (by simp at hj ⊢; try omega)).trans ((o103 j (by simp at hj ⊢; try omega)).trans ((o83 j (by simp at hj ⊢; try omega)).trans ((o61 j (by simp at hj ⊢; try omega)).trans (rfl))))), by rw [pe_kk_p hs.1, if_neg (by omega), if_neg (by omega), hs.2]; exact x148, pe_rk_p hs.1 (by omega) (by omega)⟩)
                · skip
                  refine pe_sipush d_M_plain_114 ?_
                  refine pe_goto (t := 123) d_M_plain_117 ?_
                  refine pe_putiT f_M_193 g_11_18 d_M_plain_123 rfl rfl 18 rfl hB (by first | exact hB _ _ | exact hB0 _ _ | exact hBt _ _ | exact ⟨by omega, by omega⟩) (fun σ123 hB e123 o123 f123 => ?_)
                  try have u123_0 : σ123 29 1 = σ103 29 1 := by first | exact o123 1 (by decide) | exact congrFun (f123 29 (by decide)) 1
                  try have u123_1 : σ123 29 2 = σ103 29 2 := by first | exact o123 2 (by decide) | exact congrFun (f123 29 (by decide)) 2
                  try have u123_2 : σ123 29 3 = σ103 29 3 := by first | exact o123 3 (by decide) | exact congrFun (f123 29 (by decide)) 3
                  try have u123_3 : σ123 29 5 = σ103 29 5 := by first | exact o123 5 (by decide) | exact congrFun (f123 29 (by decide)) 5
                  try have u123_4 : σ123 29 6 = σ103 29 6 := by first | exact o123 6 (by decide) | exact congrFun (f123 29 (by decide)) 6
                  try have u123_5 : σ123 29 7 = σ103 29 7 := by first | exact o123 7 (by decide) | exact congrFun (f123 29 (by decide)) 7
                  try have u123_6 : σ123 29 19 = σ103 29 19 := by first | exact o123 19 (by decide) | exact congrFun (f123 29 (by decide)) 19
                  try have u123_7 : σ123 29 21 = σ103 29 21 := by first | exact o123 21 (by decide) | exact congrFun (f123 29 (by decide)) 21
                  try have u123_8 : σ123 29 13 = σ103 29 13 := by first | exact o123 13 (by decide) | exact congrFun (f123 29 (by decide)) 13
                  try have u123_9 : σ123 29 14 = σ103 29 14 := by first | exact o123 14 (by decide) | exact congrFun (f123 29 (by decide)) 14
                  try have u123_10 : σ123 29 15 = σ103 29 15 := by first | exact o123 15 (by decide) | exact congrFun (f123 29 (by decide)) 15
                  try have u123_11 : σ123 29 16 = σ103 29 16 := by first | exact o123 16 (by decide) | exact congrFun (f123 29 (by decide)) 16
                  try have u123_12 : σ123 29 17 = σ103 29 17 := by first | exact o123 17 (by decide) | exact congrFun (f123 29 (by decide)) 17
                  try have u123_13 : σ123 29 18 = σ103 29 18 := by first | exact o123 18 (by decide) | exact congrFun (f123 29 (by decide)) 18
                  try have u123_14 : σ123 29 20 = σ103 29 20 := by first | exact o123 20 (by decide) | exact congrFun (f123 29 (by decide)) 20
                  refine pe_goto (t := 151) d_M_plain_126 ?_
                  refine pe_rv d_M_plain_151 ?_
                  first
                  | (exfalso; omega)
                  | (have hA2 := pe_ra_f hA (fun b hb => (f8 b (by rintro rfl; simp at hb))) (fun j hj => (o8 j (by rintro rfl; simp at hj)))
                     exact ⟨hB, (fun b hb => (f123 b (by simp at hb ⊢; try omega)).trans ((f103 b (by simp at hb ⊢; try omega)).trans ((f83 b (by simp at hb ⊢; try omega)).trans ((f61 b (by simp at hb ⊢; try omega)).trans (rfl))))), (fun j hj => (o123 j (by simp at hj ⊢; try omega)).trans ((o103 j (by simp at hj ⊢; try omega)).trans ((o83 j (by simp at hj ⊢; try omega)).trans ((o61 j (by simp at hj ⊢; try omega)).trans (rfl))))), by rw [pe_kk_p hs.1, if_pos (by omega), pe_q_n1]; exact hA2, pe_rk_e hs.1 (by omega) (by omega)⟩)
                  | (have hA2 := pe_ra_f hA (fun b hb => ((f123 b (by rintro rfl; simp at hb)).trans ((f103 b (by rintro rfl; simp at hb)).trans ((f83 b (by rintro rfl; simp at hb)).trans (f61 b (by rintro rfl; simp at hb)))))) (fun j hj => ((o123 j (by rintro rfl; simp at hj)).trans ((o103 j (by rintro rfl; simp at hj)).trans ((o83 j (by rintro rfl; simp at hj)).trans (o61 j (by rintro rfl; simp at hj))))))
                     exact ⟨hB, (fun b hb => (f123 b (by simp at hb ⊢; try omega)).trans ((f103 b (by simp at hb ⊢; try omega)).trans ((f83 b (by simp at hb ⊢; try omega)).trans ((f61 b (by simp at hb ⊢; try omega)).trans (rfl))))), (fun j hj => (o123 j (by simp at hj ⊢; try omega)).trans ((o103 j (by simp at hj ⊢; try omega)).trans ((o83 j (by simp at hj ⊢; try omega)).trans ((o61 j (by simp at hj ⊢; try omega)).trans (rfl))))), by rw [pe_kk_p hs.1, if_pos (by omega), pe_q_n1]; exact hA2, pe_rk_l hs.1 (by omega) (by omega)⟩)
                  | (exact ⟨hB, (fun b hb => (f123 b (by simp at hb ⊢; try omega)).trans ((f103 b (by simp at hb ⊢; try omega)).trans ((f83 b (by simp at hb ⊢; try omega)).trans ((f61 b (by simp at hb ⊢; try omega)).trans (rfl))))), (fun j hj => (o123 j (by simp at hj ⊢; try omega)).trans ((o103 j (by simp at hj ⊢; try omega)).trans ((o83 j (by simp at hj ⊢; try omega)).trans ((o61 j (by simp at hj ⊢; try omega)).trans (rfl))))), by rw [pe_kk_p hs.1, if_neg (by omega), if_neg (by omega), if_neg (by omega), pe_q_c (by omega)]; exact x28, pe_rk_p hs.1 (by omega) (by omega)⟩)
                  | (exact ⟨hB, (fun b hb => (f123 b (by simp at hb ⊢; try omega)).trans ((f103 b (by simp at hb ⊢; try omega)).trans ((f83 b (by simp at hb ⊢; try omega)).trans ((f61 b (by simp at hb ⊢; try omega)).trans (rfl))))), (fun j hj => (o123 j (by simp at hj ⊢; try omega)).trans ((o103 j (by simp at hj ⊢; try omega)).trans ((o83 j (by simp at hj ⊢; try omega)).trans ((o61 j (by simp at hj ⊢; try omega)).trans (rfl))))), by rw [pe_kk_p hs.1, if_neg (by omega), if_pos (by omega), pe_q_c (by omega)]; exact x139, pe_rk_p hs.1 (by omega) (by omega)⟩)
                  | (exact ⟨hB, (fun b hb => (f123 b (by simp at hb ⊢; try omega)).trans ((f103 b (by simp at hb ⊢; try omega)).trans ((f83 b (by simp at hb ⊢; try omega)).trans ((f61 b (by simp at hb ⊢; try omega)).trans (rfl))))), (fun j hj => (o123 j (by simp at hj ⊢; try omega)).trans ((o103 j (by simp at hj ⊢; try omega)).trans ((o83 j (by simp at hj ⊢; try omega)).trans ((o61 j (by simp at hj ⊢; try omega)).trans (rfl))))), by rw [pe_kk_p hs.1, if_neg (by omega), if_neg (by omega), hs.2]; exact x148, pe_rk_p hs.1 (by omega) (by omega)⟩)
              · skip
                refine pe_sipush d_M_plain_94 ?_
                refine pe_goto (t := 103) d_M_plain_97 ?_
                refine pe_putiT f_M_190 g_11_17 d_M_plain_103 rfl rfl 17 rfl hB (by first | exact hB _ _ | exact hB0 _ _ | exact hBt _ _ | exact ⟨by omega, by omega⟩) (fun σ103 hB e103 o103 f103 => ?_)
                try have u103_0 : σ103 29 1 = σ83 29 1 := by first | exact o103 1 (by decide) | exact congrFun (f103 29 (by decide)) 1
                try have u103_1 : σ103 29 2 = σ83 29 2 := by first | exact o103 2 (by decide) | exact congrFun (f103 29 (by decide)) 2
                try have u103_2 : σ103 29 3 = σ83 29 3 := by first | exact o103 3 (by decide) | exact congrFun (f103 29 (by decide)) 3
                try have u103_3 : σ103 29 5 = σ83 29 5 := by first | exact o103 5 (by decide) | exact congrFun (f103 29 (by decide)) 5
                try have u103_4 : σ103 29 6 = σ83 29 6 := by first | exact o103 6 (by decide) | exact congrFun (f103 29 (by decide)) 6
                try have u103_5 : σ103 29 7 = σ83 29 7 := by first | exact o103 7 (by decide) | exact congrFun (f103 29 (by decide)) 7
                try have u103_6 : σ103 29 19 = σ83 29 19 := by first | exact o103 19 (by decide) | exact congrFun (f103 29 (by decide)) 19
                try have u103_7 : σ103 29 21 = σ83 29 21 := by first | exact o103 21 (by decide) | exact congrFun (f103 29 (by decide)) 21
                try have u103_8 : σ103 29 13 = σ83 29 13 := by first | exact o103 13 (by decide) | exact congrFun (f103 29 (by decide)) 13
                try have u103_9 : σ103 29 14 = σ83 29 14 := by first | exact o103 14 (by decide) | exact congrFun (f103 29 (by decide)) 14
                try have u103_10 : σ103 29 15 = σ83 29 15 := by first | exact o103 15 (by decide) | exact congrFun (f103 29 (by decide)) 15
                try have u103_11 : σ103 29 16 = σ83 29 16 := by first | exact o103 16 (by decide) | exact congrFun (f103 29 (by decide)) 16
                try have u103_12 : σ103 29 17 = σ83 29 17 := by first | exact o103 17 (by decide) | exact congrFun (f103 29 (by decide)) 17
                try have u103_13 : σ103 29 18 = σ83 29 18 := by first | exact o103 18 (by decide) | exact congrFun (f103 29 (by decide)) 18
                try have u103_14 : σ103 29 20 = σ83 29 20 := by first | exact o103 20 (by decide) | exact congrFun (f103 29 (by decide)) 20
                refine pe_aload_n d_M_plain_106 rfl ?_
                refine pe_iload_n d_M_plain_107 rfl ?_
                refine pe_sipush d_M_plain_108 ?_
                refine pe_icmp_ne (t := 120) d_M_plain_111 (by first | exact hB _ _ | exact hB0 _ _ | exact hBt _ _ | exact ⟨by omega, by omega⟩) (by first | exact hB _ _ | exact hB0 _ _ | exact hBt _ _ | exact ⟨by omega, by omega⟩) (fun h111 => ?_) (fun h111 => ?_)
                · skip
                  refine pe_sipush d_M_plain_120 ?_
                  refine pe_putiT f_M_193 g_11_18 d_M_plain_123 rfl rfl 18 rfl hB (by first | exact hB _ _ | exact hB0 _ _ | exact hBt _ _ | exact ⟨by omega, by omega⟩) (fun σ123 hB e123 o123 f123 => ?_)
                  try have u123_0 : σ123 29 1 = σ103 29 1 := by first | exact o123 1 (by decide) | exact congrFun (f123 29 (by decide)) 1
                  try have u123_1 : σ123 29 2 = σ103 29 2 := by first | exact o123 2 (by decide) | exact congrFun (f123 29 (by decide)) 2
                  try have u123_2 : σ123 29 3 = σ103 29 3 := by first | exact o123 3 (by decide) | exact congrFun (f123 29 (by decide)) 3
                  try have u123_3 : σ123 29 5 = σ103 29 5 := by first | exact o123 5 (by decide) | exact congrFun (f123 29 (by decide)) 5
                  try have u123_4 : σ123 29 6 = σ103 29 6 := by first | exact o123 6 (by decide) | exact congrFun (f123 29 (by decide)) 6
                  try have u123_5 : σ123 29 7 = σ103 29 7 := by first | exact o123 7 (by decide) | exact congrFun (f123 29 (by decide)) 7
                  try have u123_6 : σ123 29 19 = σ103 29 19 := by first | exact o123 19 (by decide) | exact congrFun (f123 29 (by decide)) 19
                  try have u123_7 : σ123 29 21 = σ103 29 21 := by first | exact o123 21 (by decide) | exact congrFun (f123 29 (by decide)) 21
                  try have u123_8 : σ123 29 13 = σ103 29 13 := by first | exact o123 13 (by decide) | exact congrFun (f123 29 (by decide)) 13
                  try have u123_9 : σ123 29 14 = σ103 29 14 := by first | exact o123 14 (by decide) | exact congrFun (f123 29 (by decide)) 14
                  try have u123_10 : σ123 29 15 = σ103 29 15 := by first | exact o123 15 (by decide) | exact congrFun (f123 29 (by decide)) 15
                  try have u123_11 : σ123 29 16 = σ103 29 16 := by first | exact o123 16 (by decide) | exact congrFun (f123 29 (by decide)) 16
                  try have u123_12 : σ123 29 17 = σ103 29 17 := by first | exact o123 17 (by decide) | exact congrFun (f123 29 (by decide)) 17
                  try have u123_13 : σ123 29 18 = σ103 29 18 := by first | exact o123 18 (by decide) | exact congrFun (f123 29 (by decide)) 18
                  try have u123_14 : σ123 29 20 = σ103 29 20 := by first | exact o123 20 (by decide) | exact congrFun (f123 29 (by decide)) 20
                  refine pe_goto (t := 151) d_M_plain_126 ?_
                  refine pe_rv d_M_plain_151 ?_
                  first
                  | (exfalso; omega)
                  | (have hA2 := pe_ra_f hA (fun b hb => (f8 b (by rintro rfl; simp at hb))) (fun j hj => (o8 j (by rintro rfl; simp at hj)))
                     exact ⟨hB, (fun b hb => (f123 b (by simp at hb ⊢; try omega)).trans ((f103 b (by simp at hb ⊢; try omega)).trans ((f83 b (by simp at hb ⊢; try omega)).trans ((f61 b (by simp at hb ⊢; try omega)).trans (rfl))))), (fun j hj => (o123 j (by simp at hj ⊢; try omega)).trans ((o103 j (by simp at hj ⊢; try omega)).trans ((o83 j (by simp at hj ⊢; try omega)).trans ((o61 j (by simp at hj ⊢; try omega)).trans (rfl))))), by rw [pe_kk_p hs.1, if_pos (by omega), pe_q_n1]; exact hA2, pe_rk_e hs.1 (by omega) (by omega)⟩)
                  | (have hA2 := pe_ra_f hA (fun b hb => ((f123 b (by rintro rfl; simp at hb)).trans ((f103 b (by rintro rfl; simp at hb)).trans ((f83 b (by rintro rfl; simp at hb)).trans (f61 b (by rintro rfl; simp at hb)))))) (fun j hj => ((o123 j (by rintro rfl; simp at hj)).trans ((o103 j (by rintro rfl; simp at hj)).trans ((o83 j (by rintro rfl; simp at hj)).trans (o61 j (by rintro rfl; simp at hj))))))
                     exact ⟨hB, (fun b hb => (f123 b (by simp at hb ⊢; try omega)).trans ((f103 b (by simp at hb ⊢; try omega)).trans ((f83 b (by simp at hb ⊢; try omega)).trans ((f61 b (by simp at hb ⊢; try omega)).trans (rfl))))), (fun j hj => (o123 j (by simp at hj ⊢; try omega)).trans ((o103 j (by simp at hj ⊢; try omega)).trans ((o83 j (by simp at hj ⊢; try omega)).trans ((o61 j (by simp at hj ⊢; try omega)).trans (rfl))))), by rw [pe_kk_p hs.1, if_pos (by omega), pe_q_n1]; exact hA2, pe_rk_l hs.1 (by omega) (by omega)⟩)
                  | (exact ⟨hB, (fun b hb => (f123 b (by simp at hb ⊢; try omega)).trans ((f103 b (by simp at hb ⊢; try omega)).trans ((f83 b (by simp at hb ⊢; try omega)).trans ((f61 b (by simp at hb ⊢; try omega)).trans (rfl))))), (fun j hj => (o123 j (by simp at hj ⊢; try omega)).trans ((o103 j (by simp at hj ⊢; try omega)).trans ((o83 j (by simp at hj ⊢; try omega)).trans ((o61 j (by simp at hj ⊢; try omega)).trans (rfl))))), by rw [pe_kk_p hs.1, if_neg (by omega), if_neg (by omega), if_neg (by omega), pe_q_c (by omega)]; exact x28, pe_rk_p hs.1 (by omega) (by omega)⟩)
                  | (exact ⟨hB, (fun b hb => (f123 b (by simp at hb ⊢; try omega)).trans ((f103 b (by simp at hb ⊢; try omega)).trans ((f83 b (by simp at hb ⊢; try omega)).trans ((f61 b (by simp at hb ⊢; try omega)).trans (rfl))))), (fun j hj => (o123 j (by simp at hj ⊢; try omega)).trans ((o103 j (by simp at hj ⊢; try omega)).trans ((o83 j (by simp at hj ⊢; try omega)).trans ((o61 j (by simp at hj ⊢; try omega)).trans (rfl))))), by rw [pe_kk_p hs.1, if_neg (by omega), if_pos (by omega), pe_q_c (by omega)]; exact x139, pe_rk_p hs.1 (by omega) (by omega)⟩)
                  | (exact ⟨hB, (fun b hb => (f123 b (by simp at hb ⊢; try omega)).trans ((f103 b (by simp at hb ⊢; try omega)).trans ((f83 b (by simp at hb ⊢; try omega)).trans ((f61 b (by simp at hb ⊢; try omega)).trans (rfl))))), (fun j hj => (o123 j (by simp at hj ⊢; try omega)).trans ((o103 j (by simp at hj ⊢; try omega)).trans ((o83 j (by simp at hj ⊢; try omega)).trans ((o61 j (by simp at hj ⊢; try omega)).trans (rfl))))), by rw [pe_kk_p hs.1, if_neg (by omega), if_neg (by omega), hs.2]; exact x148, pe_rk_p hs.1 (by omega) (by omega)⟩)
                · skip
                  refine pe_sipush d_M_plain_114 ?_
                  refine pe_goto (t := 123) d_M_plain_117 ?_
                  refine pe_putiT f_M_193 g_11_18 d_M_plain_123 rfl rfl 18 rfl hB (by first | exact hB _ _ | exact hB0 _ _ | exact hBt _ _ | exact ⟨by omega, by omega⟩) (fun σ123 hB e123 o123 f123 => ?_)
                  try have u123_0 : σ123 29 1 = σ103 29 1 := by first | exact o123 1 (by decide) | exact congrFun (f123 29 (by decide)) 1
                  try have u123_1 : σ123 29 2 = σ103 29 2 := by first | exact o123 2 (by decide) | exact congrFun (f123 29 (by decide)) 2
                  try have u123_2 : σ123 29 3 = σ103 29 3 := by first | exact o123 3 (by decide) | exact congrFun (f123 29 (by decide)) 3
                  try have u123_3 : σ123 29 5 = σ103 29 5 := by first | exact o123 5 (by decide) | exact congrFun (f123 29 (by decide)) 5
                  try have u123_4 : σ123 29 6 = σ103 29 6 := by first | exact o123 6 (by decide) | exact congrFun (f123 29 (by decide)) 6
                  try have u123_5 : σ123 29 7 = σ103 29 7 := by first | exact o123 7 (by decide) | exact congrFun (f123 29 (by decide)) 7
                  try have u123_6 : σ123 29 19 = σ103 29 19 := by first | exact o123 19 (by decide) | exact congrFun (f123 29 (by decide)) 19
                  try have u123_7 : σ123 29 21 = σ103 29 21 := by first | exact o123 21 (by decide) | exact congrFun (f123 29 (by decide)) 21
                  try have u123_8 : σ123 29 13 = σ103 29 13 := by first | exact o123 13 (by decide) | exact congrFun (f123 29 (by decide)) 13
                  try have u123_9 : σ123 29 14 = σ103 29 14 := by first | exact o123 14 (by decide) | exact congrFun (f123 29 (by decide)) 14
                  try have u123_10 : σ123 29 15 = σ103 29 15 := by first | exact o123 15 (by decide) | exact congrFun (f123 29 (by decide)) 15
                  try have u123_11 : σ123 29 16 = σ103 29 16 := by first | exact o123 16 (by decide) | exact congrFun (f123 29 (by decide)) 16
                  try have u123_12 : σ123 29 17 = σ103 29 17 := by first | exact o123 17 (by decide) | exact congrFun (f123 29 (by decide)) 17
                  try have u123_13 : σ123 29 18 = σ103 29 18 := by first | exact o123 18 (by decide) | exact congrFun (f123 29 (by decide)) 18
                  try have u123_14 : σ123 29 20 = σ103 29 20 := by first | exact o123 20 (by decide) | exact congrFun (f123 29 (by decide)) 20
                  refine pe_goto (t := 151) d_M_plain_126 ?_
                  refine pe_rv d_M_plain_151 ?_
                  first
                  | (exfalso; omega)
                  | (have hA2 := pe_ra_f hA (fun b hb => (f8 b (by rintro rfl; simp at hb))) (fun j hj => (o8 j (by rintro rfl; simp at hj)))
                     exact ⟨hB, (fun b hb => (f123 b (by simp at hb ⊢; try omega)).trans ((f103 b (by simp at hb ⊢; try omega)).trans ((f83 b (by simp at hb ⊢; try omega)).trans ((f61 b (by simp at hb ⊢; try omega)).trans (rfl))))), (fun j hj => (o123 j (by simp at hj ⊢; try omega)).trans ((o103 j (by simp at hj ⊢; try omega)).trans ((o83 j (by simp at hj ⊢; try omega)).trans ((o61 j (by simp at hj ⊢; try omega)).trans (rfl))))), by rw [pe_kk_p hs.1, if_pos (by omega), pe_q_n1]; exact hA2, pe_rk_e hs.1 (by omega) (by omega)⟩)
                  | (have hA2 := pe_ra_f hA (fun b hb => ((f123 b (by rintro rfl; simp at hb)).trans ((f103 b (by rintro rfl; simp at hb)).trans ((f83 b (by rintro rfl; simp at hb)).trans (f61 b (by rintro rfl; simp at hb)))))) (fun j hj => ((o123 j (by rintro rfl; simp at hj)).trans ((o103 j (by rintro rfl; simp at hj)).trans ((o83 j (by rintro rfl; simp at hj)).trans (o61 j (by rintro rfl; simp at hj))))))
                     exact ⟨hB, (fun b hb => (f123 b (by simp at hb ⊢; try omega)).trans ((f103 b (by simp at hb ⊢; try omega)).trans ((f83 b (by simp at hb ⊢; try omega)).trans ((f61 b (by simp at hb ⊢; try omega)).trans (rfl))))), (fun j hj => (o123 j (by simp at hj ⊢; try omega)).trans ((o103 j (by simp at hj ⊢; try omega)).trans ((o83 j (by simp at hj ⊢; try omega)).trans ((o61 j (by simp at hj ⊢; try omega)).trans (rfl))))), by rw [pe_kk_p hs.1, if_pos (by omega), pe_q_n1]; exact hA2, pe_rk_l hs.1 (by omega) (by omega)⟩)
                  | (exact ⟨hB, (fun b hb => (f123 b (by simp at hb ⊢; try omega)).trans ((f103 b (by simp at hb ⊢; try omega)).trans ((f83 b (by simp at hb ⊢; try omega)).trans ((f61 b (by simp at hb ⊢; try omega)).trans (rfl))))), (fun j hj => (o123 j (by simp at hj ⊢; try omega)).trans ((o103 j (by simp at hj ⊢; try omega)).trans ((o83 j (by simp at hj ⊢; try omega)).trans ((o61 j (by simp at hj ⊢; try omega)).trans (rfl))))), by rw [pe_kk_p hs.1, if_neg (by omega), if_neg (by omega), if_neg (by omega), pe_q_c (by omega)]; exact x28, pe_rk_p hs.1 (by omega) (by omega)⟩)
                  | (exact ⟨hB, (fun b hb => (f123 b (by simp at hb ⊢; try omega)).trans ((f103 b (by simp at hb ⊢; try omega)).trans ((f83 b (by simp at hb ⊢; try omega)).trans ((f61 b (by simp at hb ⊢; try omega)).trans (rfl))))), (fun j hj => (o123 j (by simp at hj ⊢; try omega)).trans ((o103 j (by simp at hj ⊢; try omega)).trans ((o83 j (by simp at hj ⊢; try omega)).trans ((o61 j (by simp at hj ⊢; try omega)).trans (rfl))))), by rw [pe_kk_p hs.1, if_neg (by omega), if_pos (by omega), pe_q_c (by omega)]; exact x139, pe_rk_p hs.1 (by omega) (by omega)⟩)
                  | (exact ⟨hB, (fun b hb => (f123 b (by simp at hb ⊢; try omega)).trans ((f103 b (by simp at hb ⊢; try omega)).trans ((f83 b (by simp at hb ⊢; try omega)).trans ((f61 b (by simp at hb ⊢; try omega)).trans (rfl))))), (fun j hj => (o123 j (by simp at hj ⊢; try omega)).trans ((o103 j (by simp at hj ⊢; try omega)).trans ((o83 j (by simp at hj ⊢; try omega)).trans ((o61 j (by simp at hj ⊢; try omega)).trans (rfl))))), by rw [pe_kk_p hs.1, if_neg (by omega), if_neg (by omega), hs.2]; exact x148, pe_rk_p hs.1 (by omega) (by omega)⟩)
            · skip
              refine pe_iload_n d_M_plain_72 rfl ?_
              refine pe_bipush d_M_plain_73 ?_
              refine pe_iand d_M_plain_75 (pe_and 5 32 (by omega) (by omega)) ?_
              refine pe_goto (t := 83) d_M_plain_76 ?_
              refine pe_putiT f_M_187 g_11_16 d_M_plain_83 rfl rfl 16 rfl hB (by first | exact hB _ _ | exact hB0 _ _ | exact hBt _ _ | exact ⟨by omega, by omega⟩) (fun σ83 hB e83 o83 f83 => ?_)
              try have u83_0 : σ83 29 1 = σ61 29 1 := by first | exact o83 1 (by decide) | exact congrFun (f83 29 (by decide)) 1
              try have u83_1 : σ83 29 2 = σ61 29 2 := by first | exact o83 2 (by decide) | exact congrFun (f83 29 (by decide)) 2
              try have u83_2 : σ83 29 3 = σ61 29 3 := by first | exact o83 3 (by decide) | exact congrFun (f83 29 (by decide)) 3
              try have u83_3 : σ83 29 5 = σ61 29 5 := by first | exact o83 5 (by decide) | exact congrFun (f83 29 (by decide)) 5
              try have u83_4 : σ83 29 6 = σ61 29 6 := by first | exact o83 6 (by decide) | exact congrFun (f83 29 (by decide)) 6
              try have u83_5 : σ83 29 7 = σ61 29 7 := by first | exact o83 7 (by decide) | exact congrFun (f83 29 (by decide)) 7
              try have u83_6 : σ83 29 19 = σ61 29 19 := by first | exact o83 19 (by decide) | exact congrFun (f83 29 (by decide)) 19
              try have u83_7 : σ83 29 21 = σ61 29 21 := by first | exact o83 21 (by decide) | exact congrFun (f83 29 (by decide)) 21
              try have u83_8 : σ83 29 13 = σ61 29 13 := by first | exact o83 13 (by decide) | exact congrFun (f83 29 (by decide)) 13
              try have u83_9 : σ83 29 14 = σ61 29 14 := by first | exact o83 14 (by decide) | exact congrFun (f83 29 (by decide)) 14
              try have u83_10 : σ83 29 15 = σ61 29 15 := by first | exact o83 15 (by decide) | exact congrFun (f83 29 (by decide)) 15
              try have u83_11 : σ83 29 16 = σ61 29 16 := by first | exact o83 16 (by decide) | exact congrFun (f83 29 (by decide)) 16
              try have u83_12 : σ83 29 17 = σ61 29 17 := by first | exact o83 17 (by decide) | exact congrFun (f83 29 (by decide)) 17
              try have u83_13 : σ83 29 18 = σ61 29 18 := by first | exact o83 18 (by decide) | exact congrFun (f83 29 (by decide)) 18
              try have u83_14 : σ83 29 20 = σ61 29 20 := by first | exact o83 20 (by decide) | exact congrFun (f83 29 (by decide)) 20
              refine pe_aload_n d_M_plain_86 rfl ?_
              refine pe_iload_n d_M_plain_87 rfl ?_
              refine pe_sipush d_M_plain_88 ?_
              refine pe_icmp_ne (t := 100) d_M_plain_91 (by first | exact hB _ _ | exact hB0 _ _ | exact hBt _ _ | exact ⟨by omega, by omega⟩) (by first | exact hB _ _ | exact hB0 _ _ | exact hBt _ _ | exact ⟨by omega, by omega⟩) (fun h91 => ?_) (fun h91 => ?_)
              · skip
                refine pe_sipush d_M_plain_100 ?_
                refine pe_putiT f_M_190 g_11_17 d_M_plain_103 rfl rfl 17 rfl hB (by first | exact hB _ _ | exact hB0 _ _ | exact hBt _ _ | exact ⟨by omega, by omega⟩) (fun σ103 hB e103 o103 f103 => ?_)
                try have u103_0 : σ103 29 1 = σ83 29 1 := by first | exact o103 1 (by decide) | exact congrFun (f103 29 (by decide)) 1
                try have u103_1 : σ103 29 2 = σ83 29 2 := by first | exact o103 2 (by decide) | exact congrFun (f103 29 (by decide)) 2
                try have u103_2 : σ103 29 3 = σ83 29 3 := by first | exact o103 3 (by decide) | exact congrFun (f103 29 (by decide)) 3
                try have u103_3 : σ103 29 5 = σ83 29 5 := by first | exact o103 5 (by decide) | exact congrFun (f103 29 (by decide)) 5
                try have u103_4 : σ103 29 6 = σ83 29 6 := by first | exact o103 6 (by decide) | exact congrFun (f103 29 (by decide)) 6
                try have u103_5 : σ103 29 7 = σ83 29 7 := by first | exact o103 7 (by decide) | exact congrFun (f103 29 (by decide)) 7
                try have u103_6 : σ103 29 19 = σ83 29 19 := by first | exact o103 19 (by decide) | exact congrFun (f103 29 (by decide)) 19
                try have u103_7 : σ103 29 21 = σ83 29 21 := by first | exact o103 21 (by decide) | exact congrFun (f103 29 (by decide)) 21
                try have u103_8 : σ103 29 13 = σ83 29 13 := by first | exact o103 13 (by decide) | exact congrFun (f103 29 (by decide)) 13
                try have u103_9 : σ103 29 14 = σ83 29 14 := by first | exact o103 14 (by decide) | exact congrFun (f103 29 (by decide)) 14
                try have u103_10 : σ103 29 15 = σ83 29 15 := by first | exact o103 15 (by decide) | exact congrFun (f103 29 (by decide)) 15
                try have u103_11 : σ103 29 16 = σ83 29 16 := by first | exact o103 16 (by decide) | exact congrFun (f103 29 (by decide)) 16
                try have u103_12 : σ103 29 17 = σ83 29 17 := by first | exact o103 17 (by decide) | exact congrFun (f103 29 (by decide)) 17
                try have u103_13 : σ103 29 18 = σ83 29 18 := by first | exact o103 18 (by decide) | exact congrFun (f103 29 (by decide)) 18
                try have u103_14 : σ103 29 20 = σ83 29 20 := by first | exact o103 20 (by decide) | exact congrFun (f103 29 (by decide)) 20
                refine pe_aload_n d_M_plain_106 rfl ?_
                refine pe_iload_n d_M_plain_107 rfl ?_
                refine pe_sipush d_M_plain_108 ?_
                refine pe_icmp_ne (t := 120) d_M_plain_111 (by first | exact hB _ _ | exact hB0 _ _ | exact hBt _ _ | exact ⟨by omega, by omega⟩) (by first | exact hB _ _ | exact hB0 _ _ | exact hBt _ _ | exact ⟨by omega, by omega⟩) (fun h111 => ?_) (fun h111 => ?_)
                · skip
                  refine pe_sipush d_M_plain_120 ?_
                  refine pe_putiT f_M_193 g_11_18 d_M_plain_123 rfl rfl 18 rfl hB (by first | exact hB _ _ | exact hB0 _ _ | exact hBt _ _ | exact ⟨by omega, by omega⟩) (fun σ123 hB e123 o123 f123 => ?_)
                  try have u123_0 : σ123 29 1 = σ103 29 1 := by first | exact o123 1 (by decide) | exact congrFun (f123 29 (by decide)) 1
                  try have u123_1 : σ123 29 2 = σ103 29 2 := by first | exact o123 2 (by decide) | exact congrFun (f123 29 (by decide)) 2
                  try have u123_2 : σ123 29 3 = σ103 29 3 := by first | exact o123 3 (by decide) | exact congrFun (f123 29 (by decide)) 3
                  try have u123_3 : σ123 29 5 = σ103 29 5 := by first | exact o123 5 (by decide) | exact congrFun (f123 29 (by decide)) 5
                  try have u123_4 : σ123 29 6 = σ103 29 6 := by first | exact o123 6 (by decide) | exact congrFun (f123 29 (by decide)) 6
                  try have u123_5 : σ123 29 7 = σ103 29 7 := by first | exact o123 7 (by decide) | exact congrFun (f123 29 (by decide)) 7
                  try have u123_6 : σ123 29 19 = σ103 29 19 := by first | exact o123 19 (by decide) | exact congrFun (f123 29 (by decide)) 19
                  try have u123_7 : σ123 29 21 = σ103 29 21 := by first | exact o123 21 (by decide) | exact congrFun (f123 29 (by decide)) 21
                  try have u123_8 : σ123 29 13 = σ103 29 13 := by first | exact o123 13 (by decide) | exact congrFun (f123 29 (by decide)) 13
                  try have u123_9 : σ123 29 14 = σ103 29 14 := by first | exact o123 14 (by decide) | exact congrFun (f123 29 (by decide)) 14
                  try have u123_10 : σ123 29 15 = σ103 29 15 := by first | exact o123 15 (by decide) | exact congrFun (f123 29 (by decide)) 15
                  try have u123_11 : σ123 29 16 = σ103 29 16 := by first | exact o123 16 (by decide) | exact congrFun (f123 29 (by decide)) 16
                  try have u123_12 : σ123 29 17 = σ103 29 17 := by first | exact o123 17 (by decide) | exact congrFun (f123 29 (by decide)) 17
                  try have u123_13 : σ123 29 18 = σ103 29 18 := by first | exact o123 18 (by decide) | exact congrFun (f123 29 (by decide)) 18
                  try have u123_14 : σ123 29 20 = σ103 29 20 := by first | exact o123 20 (by decide) | exact congrFun (f123 29 (by decide)) 20
                  refine pe_goto (t := 151) d_M_plain_126 ?_
                  refine pe_rv d_M_plain_151 ?_
                  first
                  | (exfalso; omega)
                  | (have hA2 := pe_ra_f hA (fun b hb => (f8 b (by rintro rfl; simp at hb))) (fun j hj => (o8 j (by rintro rfl; simp at hj)))
                     exact ⟨hB, (fun b hb => (f123 b (by simp at hb ⊢; try omega)).trans ((f103 b (by simp at hb ⊢; try omega)).trans ((f83 b (by simp at hb ⊢; try omega)).trans ((f61 b (by simp at hb ⊢; try omega)).trans (rfl))))), (fun j hj => (o123 j (by simp at hj ⊢; try omega)).trans ((o103 j (by simp at hj ⊢; try omega)).trans ((o83 j (by simp at hj ⊢; try omega)).trans ((o61 j (by simp at hj ⊢; try omega)).trans (rfl))))), by rw [pe_kk_p hs.1, if_pos (by omega), pe_q_n1]; exact hA2, pe_rk_e hs.1 (by omega) (by omega)⟩)
                  | (have hA2 := pe_ra_f hA (fun b hb => ((f123 b (by rintro rfl; simp at hb)).trans ((f103 b (by rintro rfl; simp at hb)).trans ((f83 b (by rintro rfl; simp at hb)).trans (f61 b (by rintro rfl; simp at hb)))))) (fun j hj => ((o123 j (by rintro rfl; simp at hj)).trans ((o103 j (by rintro rfl; simp at hj)).trans ((o83 j (by rintro rfl; simp at hj)).trans (o61 j (by rintro rfl; simp at hj))))))
                     exact ⟨hB, (fun b hb => (f123 b (by simp at hb ⊢; try omega)).trans ((f103 b (by simp at hb ⊢; try omega)).trans ((f83 b (by simp at hb ⊢; try omega)).trans ((f61 b (by simp at hb ⊢; try omega)).trans (rfl))))), (fun j hj => (o123 j (by simp at hj ⊢; try omega)).trans ((o103 j (by simp at hj ⊢; try omega)).trans ((o83 j (by simp at hj ⊢; try omega)).trans ((o61 j (by simp at hj ⊢; try omega)).trans (rfl))))), by rw [pe_kk_p hs.1, if_pos (by omega), pe_q_n1]; exact hA2, pe_rk_l hs.1 (by omega) (by omega)⟩)
                  | (exact ⟨hB, (fun b hb => (f123 b (by simp at hb ⊢; try omega)).trans ((f103 b (by simp at hb ⊢; try omega)).trans ((f83 b (by simp at hb ⊢; try omega)).trans ((f61 b (by simp at hb ⊢; try omega)).trans (rfl))))), (fun j hj => (o123 j (by simp at hj ⊢; try omega)).trans ((o103 j (by simp at hj ⊢; try omega)).trans ((o83 j (by simp at hj ⊢; try omega)).trans ((o61 j (by simp at hj ⊢; try omega)).trans (rfl))))), by rw [pe_kk_p hs.1, if_neg (by omega), if_neg (by omega), if_neg (by omega), pe_q_c (by omega)]; exact x28, pe_rk_p hs.1 (by omega) (by omega)⟩)
                  | (exact ⟨hB, (fun b hb => (f123 b (by simp at hb ⊢; try omega)).trans ((f103 b (by simp at hb ⊢; try omega)).trans ((f83 b (by simp at hb ⊢; try omega)).trans ((f61 b (by simp at hb ⊢; try omega)).trans (rfl))))), (fun j hj => (o123 j (by simp at hj ⊢; try omega)).trans ((o103 j (by simp at hj ⊢; try omega)).trans ((o83 j (by simp at hj ⊢; try omega)).trans ((o61 j (by simp at hj ⊢; try omega)).trans (rfl))))), by rw [pe_kk_p hs.1, if_neg (by omega), if_pos (by omega), pe_q_c (by omega)]; exact x139, pe_rk_p hs.1 (by omega) (by omega)⟩)
                  | (exact ⟨hB, (fun b hb => (f123 b (by simp at hb ⊢; try omega)).trans ((f103 b (by simp at hb ⊢; try omega)).trans ((f83 b (by simp at hb ⊢; try omega)).trans ((f61 b (by simp at hb ⊢; try omega)).trans (rfl))))), (fun j hj => (o123 j (by simp at hj ⊢; try omega)).trans ((o103 j (by simp at hj ⊢; try omega)).trans ((o83 j (by simp at hj ⊢; try omega)).trans ((o61 j (by simp at hj ⊢; try omega)).trans (rfl))))), by rw [pe_kk_p hs.1, if_neg (by omega), if_neg (by omega), hs.2]; exact x148, pe_rk_p hs.1 (by omega) (by omega)⟩)
                · skip
                  refine pe_sipush d_M_plain_114 ?_
                  refine pe_goto (t := 123) d_M_plain_117 ?_
                  refine pe_putiT f_M_193 g_11_18 d_M_plain_123 rfl rfl 18 rfl hB (by first | exact hB _ _ | exact hB0 _ _ | exact hBt _ _ | exact ⟨by omega, by omega⟩) (fun σ123 hB e123 o123 f123 => ?_)
                  try have u123_0 : σ123 29 1 = σ103 29 1 := by first | exact o123 1 (by decide) | exact congrFun (f123 29 (by decide)) 1
                  try have u123_1 : σ123 29 2 = σ103 29 2 := by first | exact o123 2 (by decide) | exact congrFun (f123 29 (by decide)) 2
                  try have u123_2 : σ123 29 3 = σ103 29 3 := by first | exact o123 3 (by decide) | exact congrFun (f123 29 (by decide)) 3
                  try have u123_3 : σ123 29 5 = σ103 29 5 := by first | exact o123 5 (by decide) | exact congrFun (f123 29 (by decide)) 5
                  try have u123_4 : σ123 29 6 = σ103 29 6 := by first | exact o123 6 (by decide) | exact congrFun (f123 29 (by decide)) 6
                  try have u123_5 : σ123 29 7 = σ103 29 7 := by first | exact o123 7 (by decide) | exact congrFun (f123 29 (by decide)) 7
                  try have u123_6 : σ123 29 19 = σ103 29 19 := by first | exact o123 19 (by decide) | exact congrFun (f123 29 (by decide)) 19
                  try have u123_7 : σ123 29 21 = σ103 29 21 := by first | exact o123 21 (by decide) | exact congrFun (f123 29 (by decide)) 21
                  try have u123_8 : σ123 29 13 = σ103 29 13 := by first | exact o123 13 (by decide) | exact congrFun (f123 29 (by decide)) 13
                  try have u123_9 : σ123 29 14 = σ103 29 14 := by first | exact o123 14 (by decide) | exact congrFun (f123 29 (by decide)) 14
                  try have u123_10 : σ123 29 15 = σ103 29 15 := by first | exact o123 15 (by decide) | exact congrFun (f123 29 (by decide)) 15
                  try have u123_11 : σ123 29 16 = σ103 29 16 := by first | exact o123 16 (by decide) | exact congrFun (f123 29 (by decide)) 16
                  try have u123_12 : σ123 29 17 = σ103 29 17 := by first | exact o123 17 (by decide) | exact congrFun (f123 29 (by decide)) 17
                  try have u123_13 : σ123 29 18 = σ103 29 18 := by first | exact o123 18 (by decide) | exact congrFun (f123 29 (by decide)) 18
                  try have u123_14 : σ123 29 20 = σ103 29 20 := by first | exact o123 20 (by decide) | exact congrFun (f123 29 (by decide)) 20
                  refine pe_goto (t := 151) d_M_plain_126 ?_
                  refine pe_rv d_M_plain_151 ?_
                  first
                  | (exfalso; omega)
                  | (have hA2 := pe_ra_f hA (fun b hb => (f8 b (by rintro rfl; simp at hb))) (fun j hj => (o8 j (by rintro rfl; simp at hj)))
                     exact ⟨hB, (fun b hb => (f123 b (by simp at hb ⊢; try omega)).trans ((f103 b (by simp at hb ⊢; try omega)).trans ((f83 b (by simp at hb ⊢; try omega)).trans ((f61 b (by simp at hb ⊢; try omega)).trans (rfl))))), (fun j hj => (o123 j (by simp at hj ⊢; try omega)).trans ((o103 j (by simp at hj ⊢; try omega)).trans ((o83 j (by simp at hj ⊢; try omega)).trans ((o61 j (by simp at hj ⊢; try omega)).trans (rfl))))), by rw [pe_kk_p hs.1, if_pos (by omega), pe_q_n1]; exact hA2, pe_rk_e hs.1 (by omega) (by omega)⟩)
                  | (have hA2 := pe_ra_f hA (fun b hb => ((f123 b (by rintro rfl; simp at hb)).trans ((f103 b (by rintro rfl; simp at hb)).trans ((f83 b (by rintro rfl; simp at hb)).trans (f61 b (by rintro rfl; simp at hb)))))) (fun j hj => ((o123 j (by rintro rfl; simp at hj)).trans ((o103 j (by rintro rfl; simp at hj)).trans ((o83 j (by rintro rfl; simp at hj)).trans (o61 j (by rintro rfl; simp at hj))))))
                     exact ⟨hB, (fun b hb => (f123 b (by simp at hb ⊢; try omega)).trans ((f103 b (by simp at hb ⊢; try omega)).trans ((f83 b (by simp at hb ⊢; try omega)).trans ((f61 b (by simp at hb ⊢; try omega)).trans (rfl))))), (fun j hj => (o123 j (by simp at hj ⊢; try omega)).trans ((o103 j (by simp at hj ⊢; try omega)).trans ((o83 j (by simp at hj ⊢; try omega)).trans ((o61 j (by simp at hj ⊢; try omega)).trans (rfl))))), by rw [pe_kk_p hs.1, if_pos (by omega), pe_q_n1]; exact hA2, pe_rk_l hs.1 (by omega) (by omega)⟩)
                  | (exact ⟨hB, (fun b hb => (f123 b (by simp at hb ⊢; try omega)).trans ((f103 b (by simp at hb ⊢; try omega)).trans ((f83 b (by simp at hb ⊢; try omega)).trans ((f61 b (by simp at hb ⊢; try omega)).trans (rfl))))), (fun j hj => (o123 j (by simp at hj ⊢; try omega)).trans ((o103 j (by simp at hj ⊢; try omega)).trans ((o83 j (by simp at hj ⊢; try omega)).trans ((o61 j (by simp at hj ⊢; try omega)).trans (rfl))))), by rw [pe_kk_p hs.1, if_neg (by omega), if_neg (by omega), if_neg (by omega), pe_q_c (by omega)]; exact x28, pe_rk_p hs.1 (by omega) (by omega)⟩)
                  | (exact ⟨hB, (fun b hb => (f123 b (by simp at hb ⊢; try omega)).trans ((f103 b (by simp at hb ⊢; try omega)).trans ((f83 b (by simp at hb ⊢; try omega)).trans ((f61 b (by simp at hb ⊢; try omega)).trans (rfl))))), (fun j hj => (o123 j (by simp at hj ⊢; try omega)).trans ((o103 j (by simp at hj ⊢; try omega)).trans ((o83 j (by simp at hj ⊢; try omega)).trans ((o61 j (by simp at hj ⊢; try omega)).trans (rfl))))), by rw [pe_kk_p hs.1, if_neg (by omega), if_pos (by omega), pe_q_c (by omega)]; exact x139, pe_rk_p hs.1 (by omega) (by omega)⟩)
                  | (exact ⟨hB, (fun b hb => (f123 b (by simp at hb ⊢; try omega)).trans ((f103 b (by simp at hb ⊢; try omega)).trans ((f83 b (by simp at hb ⊢; try omega)).trans ((f61 b (by simp at hb ⊢; try omega)).trans (rfl))))), (fun j hj => (o123 j (by simp at hj ⊢; try omega)).trans ((o103 j (by simp at hj ⊢; try omega)).trans ((o83 j (by simp at hj ⊢; try omega)).trans ((o61 j (by simp at hj ⊢; try omega)).trans (rfl))))), by rw [pe_kk_p hs.1, if_neg (by omega), if_neg (by omega), hs.2]; exact x148, pe_rk_p hs.1 (by omega) (by omega)⟩)
              · skip
                refine pe_sipush d_M_plain_94 ?_
                refine pe_goto (t := 103) d_M_plain_97 ?_
                refine pe_putiT f_M_190 g_11_17 d_M_plain_103 rfl rfl 17 rfl hB (by first | exact hB _ _ | exact hB0 _ _ | exact hBt _ _ | exact ⟨by omega, by omega⟩) (fun σ103 hB e103 o103 f103 => ?_)
                try have u103_0 : σ103 29 1 = σ83 29 1 := by first | exact o103 1 (by decide) | exact congrFun (f103 29 (by decide)) 1
                try have u103_1 : σ103 29 2 = σ83 29 2 := by first | exact o103 2 (by decide) | exact congrFun (f103 29 (by decide)) 2
                try have u103_2 : σ103 29 3 = σ83 29 3 := by first | exact o103 3 (by decide) | exact congrFun (f103 29 (by decide)) 3
                try have u103_3 : σ103 29 5 = σ83 29 5 := by first | exact o103 5 (by decide) | exact congrFun (f103 29 (by decide)) 5
                try have u103_4 : σ103 29 6 = σ83 29 6 := by first | exact o103 6 (by decide) | exact congrFun (f103 29 (by decide)) 6
                try have u103_5 : σ103 29 7 = σ83 29 7 := by first | exact o103 7 (by decide) | exact congrFun (f103 29 (by decide)) 7
                try have u103_6 : σ103 29 19 = σ83 29 19 := by first | exact o103 19 (by decide) | exact congrFun (f103 29 (by decide)) 19
                try have u103_7 : σ103 29 21 = σ83 29 21 := by first | exact o103 21 (by decide) | exact congrFun (f103 29 (by decide)) 21
                try have u103_8 : σ103 29 13 = σ83 29 13 := by first | exact o103 13 (by decide) | exact congrFun (f103 29 (by decide)) 13
                try have u103_9 : σ103 29 14 = σ83 29 14 := by first | exact o103 14 (by decide) | exact congrFun (f103 29 (by decide)) 14
                try have u103_10 : σ103 29 15 = σ83 29 15 := by first | exact o103 15 (by decide) | exact congrFun (f103 29 (by decide)) 15
                try have u103_11 : σ103 29 16 = σ83 29 16 := by first | exact o103 16 (by decide) | exact congrFun (f103 29 (by decide)) 16
                try have u103_12 : σ103 29 17 = σ83 29 17 := by first | exact o103 17 (by decide) | exact congrFun (f103 29 (by decide)) 17
                try have u103_13 : σ103 29 18 = σ83 29 18 := by first | exact o103 18 (by decide) | exact congrFun (f103 29 (by decide)) 18
                try have u103_14 : σ103 29 20 = σ83 29 20 := by first | exact o103 20 (by decide) | exact congrFun (f103 29 (by decide)) 20
                refine pe_aload_n d_M_plain_106 rfl ?_
                refine pe_iload_n d_M_plain_107 rfl ?_
                refine pe_sipush d_M_plain_108 ?_
                refine pe_icmp_ne (t := 120) d_M_plain_111 (by first | exact hB _ _ | exact hB0 _ _ | exact hBt _ _ | exact ⟨by omega, by omega⟩) (by first | exact hB _ _ | exact hB0 _ _ | exact hBt _ _ | exact ⟨by omega, by omega⟩) (fun h111 => ?_) (fun h111 => ?_)
                · skip
                  refine pe_sipush d_M_plain_120 ?_
                  refine pe_putiT f_M_193 g_11_18 d_M_plain_123 rfl rfl 18 rfl hB (by first | exact hB _ _ | exact hB0 _ _ | exact hBt _ _ | exact ⟨by omega, by omega⟩) (fun σ123 hB e123 o123 f123 => ?_)
                  try have u123_0 : σ123 29 1 = σ103 29 1 := by first | exact o123 1 (by decide) | exact congrFun (f123 29 (by decide)) 1
                  try have u123_1 : σ123 29 2 = σ103 29 2 := by first | exact o123 2 (by decide) | exact congrFun (f123 29 (by decide)) 2
                  try have u123_2 : σ123 29 3 = σ103 29 3 := by first | exact o123 3 (by decide) | exact congrFun (f123 29 (by decide)) 3
                  try have u123_3 : σ123 29 5 = σ103 29 5 := by first | exact o123 5 (by decide) | exact congrFun (f123 29 (by decide)) 5
                  try have u123_4 : σ123 29 6 = σ103 29 6 := by first | exact o123 6 (by decide) | exact congrFun (f123 29 (by decide)) 6
                  try have u123_5 : σ123 29 7 = σ103 29 7 := by first | exact o123 7 (by decide) | exact congrFun (f123 29 (by decide)) 7
                  try have u123_6 : σ123 29 19 = σ103 29 19 := by first | exact o123 19 (by decide) | exact congrFun (f123 29 (by decide)) 19
                  try have u123_7 : σ123 29 21 = σ103 29 21 := by first | exact o123 21 (by decide) | exact congrFun (f123 29 (by decide)) 21
                  try have u123_8 : σ123 29 13 = σ103 29 13 := by first | exact o123 13 (by decide) | exact congrFun (f123 29 (by decide)) 13
                  try have u123_9 : σ123 29 14 = σ103 29 14 := by first | exact o123 14 (by decide) | exact congrFun (f123 29 (by decide)) 14
                  try have u123_10 : σ123 29 15 = σ103 29 15 := by first | exact o123 15 (by decide) | exact congrFun (f123 29 (by decide)) 15
                  try have u123_11 : σ123 29 16 = σ103 29 16 := by first | exact o123 16 (by decide) | exact congrFun (f123 29 (by decide)) 16
                  try have u123_12 : σ123 29 17 = σ103 29 17 := by first | exact o123 17 (by decide) | exact congrFun (f123 29 (by decide)) 17
                  try have u123_13 : σ123 29 18 = σ103 29 18 := by first | exact o123 18 (by decide) | exact congrFun (f123 29 (by decide)) 18
                  try have u123_14 : σ123 29 20 = σ103 29 20 := by first | exact o123 20 (by decide) | exact congrFun (f123 29 (by decide)) 20
                  refine pe_goto (t := 151) d_M_plain_126 ?_
                  refine pe_rv d_M_plain_151 ?_
                  first
                  | (exfalso; omega)
                  | (have hA2 := pe_ra_f hA (fun b hb => (f8 b (by rintro rfl; simp at hb))) (fun j hj => (o8 j (by rintro rfl; simp at hj)))
                     exact ⟨hB, (fun b hb => (f123 b (by simp at hb ⊢; try omega)).trans ((f103 b (by simp at hb ⊢; try omega)).trans ((f83 b (by simp at hb ⊢; try omega)).trans ((f61 b (by simp at hb ⊢; try omega)).trans (rfl))))), (fun j hj => (o123 j (by simp at hj ⊢; try omega)).trans ((o103 j (by simp at hj ⊢; try omega)).trans ((o83 j (by simp at hj ⊢; try omega)).trans ((o61 j (by simp at hj ⊢; try omega)).trans (rfl))))), by rw [pe_kk_p hs.1, if_pos (by omega), pe_q_n1]; exact hA2, pe_rk_e hs.1 (by omega) (by omega)⟩)
                  | (have hA2 := pe_ra_f hA (fun b hb => ((f123 b (by rintro rfl; simp at hb)).trans ((f103 b (by rintro rfl; simp at hb)).trans ((f83 b (by rintro rfl; simp at hb)).trans (f61 b (by rintro rfl; simp at hb)))))) (fun j hj => ((o123 j (by rintro rfl; simp at hj)).trans ((o103 j (by rintro rfl; simp at hj)).trans ((o83 j (by rintro rfl; simp at hj)).trans (o61 j (by rintro rfl; simp at hj))))))
                     exact ⟨hB, (fun b hb => (f123 b (by simp at hb ⊢; try omega)).trans ((f103 b (by simp at hb ⊢; try omega)).trans ((f83 b (by simp at hb ⊢; try omega)).trans ((f61 b (by simp at hb ⊢; try omega)).trans (rfl))))), (fun j hj => (o123 j (by simp at hj ⊢; try omega)).trans ((o103 j (by simp at hj ⊢; try omega)).trans ((o83 j (by simp at hj ⊢; try omega)).trans ((o61 j (by simp at hj ⊢; try omega)).trans (rfl))))), by rw [pe_kk_p hs.1, if_pos (by omega), pe_q_n1]; exact hA2, pe_rk_l hs.1 (by omega) (by omega)⟩)
                  | (exact ⟨hB, (fun b hb => (f123 b (by simp at hb ⊢; try omega)).trans ((f103 b (by simp at hb ⊢; try omega)).trans ((f83 b (by simp at hb ⊢; try omega)).trans ((f61 b (by simp at hb ⊢; try omega)).trans (rfl))))), (fun j hj => (o123 j (by simp at hj ⊢; try omega)).trans ((o103 j (by simp at hj ⊢; try omega)).trans ((o83 j (by simp at hj ⊢; try omega)).trans ((o61 j (by simp at hj ⊢; try omega)).trans (rfl))))), by rw [pe_kk_p hs.1, if_neg (by omega), if_neg (by omega), if_neg (by omega), pe_q_c (by omega)]; exact x28, pe_rk_p hs.1 (by omega) (by omega)⟩)
                  | (exact ⟨hB, (fun b hb => (f123 b (by simp at hb ⊢; try omega)).trans ((f103 b (by simp at hb ⊢; try omega)).trans ((f83 b (by simp at hb ⊢; try omega)).trans ((f61 b (by simp at hb ⊢; try omega)).trans (rfl))))), (fun j hj => (o123 j (by simp at hj ⊢; try omega)).trans ((o103 j (by simp at hj ⊢; try omega)).trans ((o83 j (by simp at hj ⊢; try omega)).trans ((o61 j (by simp at hj ⊢; try omega)).trans (rfl))))), by rw [pe_kk_p hs.1, if_neg (by omega), if_pos (by omega), pe_q_c (by omega)]; exact x139, pe_rk_p hs.1 (by omega) (by omega)⟩)
                  | (exact ⟨hB, (fun b hb => (f123 b (by simp at hb ⊢; try omega)).trans ((f103 b (by simp at hb ⊢; try omega)).trans ((f83 b (by simp at hb ⊢; try omega)).trans ((f61 b (by simp at hb ⊢; try omega)).trans (rfl))))), (fun j hj => (o123 j (by simp at hj ⊢; try omega)).trans ((o103 j (by simp at hj ⊢; try omega)).trans ((o83 j (by simp at hj ⊢; try omega)).trans ((o61 j (by simp at hj ⊢; try omega)).trans (rfl))))), by rw [pe_kk_p hs.1, if_neg (by omega), if_neg (by omega), hs.2]; exact x148, pe_rk_p hs.1 (by omega) (by omega)⟩)
                · skip
                  refine pe_sipush d_M_plain_114 ?_
                  refine pe_goto (t := 123) d_M_plain_117 ?_
                  refine pe_putiT f_M_193 g_11_18 d_M_plain_123 rfl rfl 18 rfl hB (by first | exact hB _ _ | exact hB0 _ _ | exact hBt _ _ | exact ⟨by omega, by omega⟩) (fun σ123 hB e123 o123 f123 => ?_)
                  try have u123_0 : σ123 29 1 = σ103 29 1 := by first | exact o123 1 (by decide) | exact congrFun (f123 29 (by decide)) 1
                  try have u123_1 : σ123 29 2 = σ103 29 2 := by first | exact o123 2 (by decide) | exact congrFun (f123 29 (by decide)) 2
                  try have u123_2 : σ123 29 3 = σ103 29 3 := by first | exact o123 3 (by decide) | exact congrFun (f123 29 (by decide)) 3
                  try have u123_3 : σ123 29 5 = σ103 29 5 := by first | exact o123 5 (by decide) | exact congrFun (f123 29 (by decide)) 5
                  try have u123_4 : σ123 29 6 = σ103 29 6 := by first | exact o123 6 (by decide) | exact congrFun (f123 29 (by decide)) 6
                  try have u123_5 : σ123 29 7 = σ103 29 7 := by first | exact o123 7 (by decide) | exact congrFun (f123 29 (by decide)) 7
                  try have u123_6 : σ123 29 19 = σ103 29 19 := by first | exact o123 19 (by decide) | exact congrFun (f123 29 (by decide)) 19
                  try have u123_7 : σ123 29 21 = σ103 29 21 := by first | exact o123 21 (by decide) | exact congrFun (f123 29 (by decide)) 21
                  try have u123_8 : σ123 29 13 = σ103 29 13 := by first | exact o123 13 (by decide) | exact congrFun (f123 29 (by decide)) 13
                  try have u123_9 : σ123 29 14 = σ103 29 14 := by first | exact o123 14 (by decide) | exact congrFun (f123 29 (by decide)) 14
                  try have u123_10 : σ123 29 15 = σ103 29 15 := by first | exact o123 15 (by decide) | exact congrFun (f123 29 (by decide)) 15
                  try have u123_11 : σ123 29 16 = σ103 29 16 := by first | exact o123 16 (by decide) | exact congrFun (f123 29 (by decide)) 16
                  try have u123_12 : σ123 29 17 = σ103 29 17 := by first | exact o123 17 (by decide) | exact congrFun (f123 29 (by decide)) 17
                  try have u123_13 : σ123 29 18 = σ103 29 18 := by first | exact o123 18 (by decide) | exact congrFun (f123 29 (by decide)) 18
                  try have u123_14 : σ123 29 20 = σ103 29 20 := by first | exact o123 20 (by decide) | exact congrFun (f123 29 (by decide)) 20
                  refine pe_goto (t := 151) d_M_plain_126 ?_
                  refine pe_rv d_M_plain_151 ?_
                  first
                  | (exfalso; omega)
                  | (have hA2 := pe_ra_f hA (fun b hb => (f8 b (by rintro rfl; simp at hb))) (fun j hj => (o8 j (by rintro rfl; simp at hj)))
                     exact ⟨hB, (fun b hb => (f123 b (by simp at hb ⊢; try omega)).trans ((f103 b (by simp at hb ⊢; try omega)).trans ((f83 b (by simp at hb ⊢; try omega)).trans ((f61 b (by simp at hb ⊢; try omega)).trans (rfl))))), (fun j hj => (o123 j (by simp at hj ⊢; try omega)).trans ((o103 j (by simp at hj ⊢; try omega)).trans ((o83 j (by simp at hj ⊢; try omega)).trans ((o61 j (by simp at hj ⊢; try omega)).trans (rfl))))), by rw [pe_kk_p hs.1, if_pos (by omega), pe_q_n1]; exact hA2, pe_rk_e hs.1 (by omega) (by omega)⟩)
                  | (have hA2 := pe_ra_f hA (fun b hb => ((f123 b (by rintro rfl; simp at hb)).trans ((f103 b (by rintro rfl; simp at hb)).trans ((f83 b (by rintro rfl; simp at hb)).trans (f61 b (by rintro rfl; simp at hb)))))) (fun j hj => ((o123 j (by rintro rfl; simp at hj)).trans ((o103 j (by rintro rfl; simp at hj)).trans ((o83 j (by rintro rfl; simp at hj)).trans (o61 j (by rintro rfl; simp at hj))))))
                     exact ⟨hB, (fun b hb => (f123 b (by simp at hb ⊢; try omega)).trans ((f103 b (by simp at hb ⊢; try omega)).trans ((f83 b (by simp at hb ⊢; try omega)).trans ((f61 b (by simp at hb ⊢; try omega)).trans (rfl))))), (fun j hj => (o123 j (by simp at hj ⊢; try omega)).trans ((o103 j (by simp at hj ⊢; try omega)).trans ((o83 j (by simp at hj ⊢; try omega)).trans ((o61 j (by simp at hj ⊢; try omega)).trans (rfl))))), by rw [pe_kk_p hs.1, if_pos (by omega), pe_q_n1]; exact hA2, pe_rk_l hs.1 (by omega) (by omega)⟩)
                  | (exact ⟨hB, (fun b hb => (f123 b (by simp at hb ⊢; try omega)).trans ((f103 b (by simp at hb ⊢; try omega)).trans ((f83 b (by simp at hb ⊢; try omega)).trans ((f61 b (by simp at hb ⊢; try omega)).trans (rfl))))), (fun j hj => (o123 j (by simp at hj ⊢; try omega)).trans ((o103 j (by simp at hj ⊢; try omega)).trans ((o83 j (by simp at hj ⊢; try omega)).trans ((o61 j (by simp at hj ⊢; try omega)).trans (rfl))))), by rw [pe_kk_p hs.1, if_neg (by omega), if_neg (by omega), if_neg (by omega), pe_q_c (by omega)]; exact x28, pe_rk_p hs.1 (by omega) (by omega)⟩)
                  | (exact ⟨hB, (fun b hb => (f123 b (by simp at hb ⊢; try omega)).trans ((f103 b (by simp at hb ⊢; try omega)).trans ((f83 b (by simp at hb ⊢; try omega)).trans ((f61 b (by simp at hb ⊢; try omega)).trans (rfl))))), (fun j hj => (o123 j (by simp at hj ⊢; try omega)).trans ((o103 j (by simp at hj ⊢; try omega)).trans ((o83 j (by simp at hj ⊢; try omega)).trans ((o61 j (by simp at hj ⊢; try omega)).trans (rfl))))), by rw [pe_kk_p hs.1, if_neg (by omega), if_pos (by omega), pe_q_c (by omega)]; exact x139, pe_rk_p hs.1 (by omega) (by omega)⟩)
                  | (exact ⟨hB, (fun b hb => (f123 b (by simp at hb ⊢; try omega)).trans ((f103 b (by simp at hb ⊢; try omega)).trans ((f83 b (by simp at hb ⊢; try omega)).trans ((f61 b (by simp at hb ⊢; try omega)).trans (rfl))))), (fun j hj => (o123 j (by simp at hj ⊢; try omega)).trans ((o103 j (by simp at hj ⊢; try omega)).trans ((o83 j (by simp at hj ⊢; try omega)).trans ((o61 j (by simp at hj ⊢; try omega)).trans (rfl))))), by rw [pe_kk_p hs.1, if_neg (by omega), if_neg (by omega), hs.2]; exact x148, pe_rk_p hs.1 (by omega) (by omega)⟩)
          · skip
            refine pe_iconst d_M_plain_56 ?_
            refine pe_goto (t := 61) d_M_plain_57 ?_
            refine pe_putiT f_M_184 g_11_15 d_M_plain_61 rfl rfl 15 rfl hB (by first | exact hB _ _ | exact hB0 _ _ | exact hBt _ _ | exact ⟨by omega, by omega⟩) (fun σ61 hB e61 o61 f61 => ?_)
            try have u61_0 : σ61 29 1 = σ 29 1 := by first | exact o61 1 (by decide) | exact congrFun (f61 29 (by decide)) 1
            try have u61_1 : σ61 29 2 = σ 29 2 := by first | exact o61 2 (by decide) | exact congrFun (f61 29 (by decide)) 2
            try have u61_2 : σ61 29 3 = σ 29 3 := by first | exact o61 3 (by decide) | exact congrFun (f61 29 (by decide)) 3
            try have u61_3 : σ61 29 5 = σ 29 5 := by first | exact o61 5 (by decide) | exact congrFun (f61 29 (by decide)) 5
            try have u61_4 : σ61 29 6 = σ 29 6 := by first | exact o61 6 (by decide) | exact congrFun (f61 29 (by decide)) 6
            try have u61_5 : σ61 29 7 = σ 29 7 := by first | exact o61 7 (by decide) | exact congrFun (f61 29 (by decide)) 7
            try have u61_6 : σ61 29 19 = σ 29 19 := by first | exact o61 19 (by decide) | exact congrFun (f61 29 (by decide)) 19
            try have u61_7 : σ61 29 21 = σ 29 21 := by first | exact o61 21 (by decide) | exact congrFun (f61 29 (by decide)) 21
            try have u61_8 : σ61 29 13 = σ 29 13 := by first | exact o61 13 (by decide) | exact congrFun (f61 29 (by decide)) 13
            try have u61_9 : σ61 29 14 = σ 29 14 := by first | exact o61 14 (by decide) | exact congrFun (f61 29 (by decide)) 14
            try have u61_10 : σ61 29 15 = σ 29 15 := by first | exact o61 15 (by decide) | exact congrFun (f61 29 (by decide)) 15
            try have u61_11 : σ61 29 16 = σ 29 16 := by first | exact o61 16 (by decide) | exact congrFun (f61 29 (by decide)) 16
            try have u61_12 : σ61 29 17 = σ 29 17 := by first | exact o61 17 (by decide) | exact congrFun (f61 29 (by decide)) 17
            try have u61_13 : σ61 29 18 = σ 29 18 := by first | exact o61 18 (by decide) | exact congrFun (f61 29 (by decide)) 18
            try have u61_14 : σ61 29 20 = σ 29 20 := by first | exact o61 20 (by decide) | exact congrFun (f61 29 (by decide)) 20
            refine pe_aload_n d_M_plain_64 rfl ?_
            refine pe_iload_n d_M_plain_65 rfl ?_
            refine pe_sipush d_M_plain_66 ?_
            refine pe_icmp_ge (t := 79) d_M_plain_69 (by first | exact hB _ _ | exact hB0 _ _ | exact hBt _ _ | exact ⟨by omega, by omega⟩) (by first | exact hB _ _ | exact hB0 _ _ | exact hBt _ _ | exact ⟨by omega, by omega⟩) (fun h69 => ?_) (fun h69 => ?_)
            · skip
              refine pe_iload_n d_M_plain_79 rfl ?_
              refine pe_bipush d_M_plain_80 ?_
              refine pe_iand d_M_plain_82 (pe_and 4 16 (by omega) (by omega)) ?_
              refine pe_putiT f_M_187 g_11_16 d_M_plain_83 rfl rfl 16 rfl hB (by first | exact hB _ _ | exact hB0 _ _ | exact hBt _ _ | exact ⟨by omega, by omega⟩) (fun σ83 hB e83 o83 f83 => ?_)
              try have u83_0 : σ83 29 1 = σ61 29 1 := by first | exact o83 1 (by decide) | exact congrFun (f83 29 (by decide)) 1
              try have u83_1 : σ83 29 2 = σ61 29 2 := by first | exact o83 2 (by decide) | exact congrFun (f83 29 (by decide)) 2
              try have u83_2 : σ83 29 3 = σ61 29 3 := by first | exact o83 3 (by decide) | exact congrFun (f83 29 (by decide)) 3
              try have u83_3 : σ83 29 5 = σ61 29 5 := by first | exact o83 5 (by decide) | exact congrFun (f83 29 (by decide)) 5
              try have u83_4 : σ83 29 6 = σ61 29 6 := by first | exact o83 6 (by decide) | exact congrFun (f83 29 (by decide)) 6
              try have u83_5 : σ83 29 7 = σ61 29 7 := by first | exact o83 7 (by decide) | exact congrFun (f83 29 (by decide)) 7
              try have u83_6 : σ83 29 19 = σ61 29 19 := by first | exact o83 19 (by decide) | exact congrFun (f83 29 (by decide)) 19
              try have u83_7 : σ83 29 21 = σ61 29 21 := by first | exact o83 21 (by decide) | exact congrFun (f83 29 (by decide)) 21
              try have u83_8 : σ83 29 13 = σ61 29 13 := by first | exact o83 13 (by decide) | exact congrFun (f83 29 (by decide)) 13
              try have u83_9 : σ83 29 14 = σ61 29 14 := by first | exact o83 14 (by decide) | exact congrFun (f83 29 (by decide)) 14
              try have u83_10 : σ83 29 15 = σ61 29 15 := by first | exact o83 15 (by decide) | exact congrFun (f83 29 (by decide)) 15
              try have u83_11 : σ83 29 16 = σ61 29 16 := by first | exact o83 16 (by decide) | exact congrFun (f83 29 (by decide)) 16
              try have u83_12 : σ83 29 17 = σ61 29 17 := by first | exact o83 17 (by decide) | exact congrFun (f83 29 (by decide)) 17
              try have u83_13 : σ83 29 18 = σ61 29 18 := by first | exact o83 18 (by decide) | exact congrFun (f83 29 (by decide)) 18
              try have u83_14 : σ83 29 20 = σ61 29 20 := by first | exact o83 20 (by decide) | exact congrFun (f83 29 (by decide)) 20
              refine pe_aload_n d_M_plain_86 rfl ?_
              refine pe_iload_n d_M_plain_87 rfl ?_
              refine pe_sipush d_M_plain_88 ?_
              refine pe_icmp_ne (t := 100) d_M_plain_91 (by first | exact hB _ _ | exact hB0 _ _ | exact hBt _ _ | exact ⟨by omega, by omega⟩) (by first | exact hB _ _ | exact hB0 _ _ | exact hBt _ _ | exact ⟨by omega, by omega⟩) (fun h91 => ?_) (fun h91 => ?_)
              · skip
                refine pe_sipush d_M_plain_100 ?_
                refine pe_putiT f_M_190 g_11_17 d_M_plain_103 rfl rfl 17 rfl hB (by first | exact hB _ _ | exact hB0 _ _ | exact hBt _ _ | exact ⟨by omega, by omega⟩) (fun σ103 hB e103 o103 f103 => ?_)
                try have u103_0 : σ103 29 1 = σ83 29 1 := by first | exact o103 1 (by decide) | exact congrFun (f103 29 (by decide)) 1
                try have u103_1 : σ103 29 2 = σ83 29 2 := by first | exact o103 2 (by decide) | exact congrFun (f103 29 (by decide)) 2
                try have u103_2 : σ103 29 3 = σ83 29 3 := by first | exact o103 3 (by decide) | exact congrFun (f103 29 (by decide)) 3
                try have u103_3 : σ103 29 5 = σ83 29 5 := by first | exact o103 5 (by decide) | exact congrFun (f103 29 (by decide)) 5
                try have u103_4 : σ103 29 6 = σ83 29 6 := by first | exact o103 6 (by decide) | exact congrFun (f103 29 (by decide)) 6
                try have u103_5 : σ103 29 7 = σ83 29 7 := by first | exact o103 7 (by decide) | exact congrFun (f103 29 (by decide)) 7
                try have u103_6 : σ103 29 19 = σ83 29 19 := by first | exact o103 19 (by decide) | exact congrFun (f103 29 (by decide)) 19
                try have u103_7 : σ103 29 21 = σ83 29 21 := by first | exact o103 21 (by decide) | exact congrFun (f103 29 (by decide)) 21
                try have u103_8 : σ103 29 13 = σ83 29 13 := by first | exact o103 13 (by decide) | exact congrFun (f103 29 (by decide)) 13
                try have u103_9 : σ103 29 14 = σ83 29 14 := by first | exact o103 14 (by decide) | exact congrFun (f103 29 (by decide)) 14
                try have u103_10 : σ103 29 15 = σ83 29 15 := by first | exact o103 15 (by decide) | exact congrFun (f103 29 (by decide)) 15
                try have u103_11 : σ103 29 16 = σ83 29 16 := by first | exact o103 16 (by decide) | exact congrFun (f103 29 (by decide)) 16
                try have u103_12 : σ103 29 17 = σ83 29 17 := by first | exact o103 17 (by decide) | exact congrFun (f103 29 (by decide)) 17
                try have u103_13 : σ103 29 18 = σ83 29 18 := by first | exact o103 18 (by decide) | exact congrFun (f103 29 (by decide)) 18
                try have u103_14 : σ103 29 20 = σ83 29 20 := by first | exact o103 20 (by decide) | exact congrFun (f103 29 (by decide)) 20
                refine pe_aload_n d_M_plain_106 rfl ?_
                refine pe_iload_n d_M_plain_107 rfl ?_
                refine pe_sipush d_M_plain_108 ?_
                refine pe_icmp_ne (t := 120) d_M_plain_111 (by first | exact hB _ _ | exact hB0 _ _ | exact hBt _ _ | exact ⟨by omega, by omega⟩) (by first | exact hB _ _ | exact hB0 _ _ | exact hBt _ _ | exact ⟨by omega, by omega⟩) (fun h111 => ?_) (fun h111 => ?_)
                · skip
                  refine pe_sipush d_M_plain_120 ?_
                  refine pe_putiT f_M_193 g_11_18 d_M_plain_123 rfl rfl 18 rfl hB (by first | exact hB _ _ | exact hB0 _ _ | exact hBt _ _ | exact ⟨by omega, by omega⟩) (fun σ123 hB e123 o123 f123 => ?_)
                  try have u123_0 : σ123 29 1 = σ103 29 1 := by first | exact o123 1 (by decide) | exact congrFun (f123 29 (by decide)) 1
                  try have u123_1 : σ123 29 2 = σ103 29 2 := by first | exact o123 2 (by decide) | exact congrFun (f123 29 (by decide)) 2
                  try have u123_2 : σ123 29 3 = σ103 29 3 := by first | exact o123 3 (by decide) | exact congrFun (f123 29 (by decide)) 3
                  try have u123_3 : σ123 29 5 = σ103 29 5 := by first | exact o123 5 (by decide) | exact congrFun (f123 29 (by decide)) 5
                  try have u123_4 : σ123 29 6 = σ103 29 6 := by first | exact o123 6 (by decide) | exact congrFun (f123 29 (by decide)) 6
                  try have u123_5 : σ123 29 7 = σ103 29 7 := by first | exact o123 7 (by decide) | exact congrFun (f123 29 (by decide)) 7
                  try have u123_6 : σ123 29 19 = σ103 29 19 := by first | exact o123 19 (by decide) | exact congrFun (f123 29 (by decide)) 19
                  try have u123_7 : σ123 29 21 = σ103 29 21 := by first | exact o123 21 (by decide) | exact congrFun (f123 29 (by decide)) 21
                  try have u123_8 : σ123 29 13 = σ103 29 13 := by first | exact o123 13 (by decide) | exact congrFun (f123 29 (by decide)) 13
                  try have u123_9 : σ123 29 14 = σ103 29 14 := by first | exact o123 14 (by decide) | exact congrFun (f123 29 (by decide)) 14
                  try have u123_10 : σ123 29 15 = σ103 29 15 := by first | exact o123 15 (by decide) | exact congrFun (f123 29 (by decide)) 15
                  try have u123_11 : σ123 29 16 = σ103 29 16 := by first | exact o123 16 (by decide) | exact congrFun (f123 29 (by decide)) 16
                  try have u123_12 : σ123 29 17 = σ103 29 17 := by first | exact o123 17 (by decide) | exact congrFun (f123 29 (by decide)) 17
                  try have u123_13 : σ123 29 18 = σ103 29 18 := by first | exact o123 18 (by decide) | exact congrFun (f123 29 (by decide)) 18
                  try have u123_14 : σ123 29 20 = σ103 29 20 := by first | exact o123 20 (by decide) | exact congrFun (f123 29 (by decide)) 20
                  refine pe_goto (t := 151) d_M_plain_126 ?_
                  refine pe_rv d_M_plain_151 ?_
                  first
                  | (exfalso; omega)
                  | (have hA2 := pe_ra_f hA (fun b hb => (f8 b (by rintro rfl; simp at hb))) (fun j hj => (o8 j (by rintro rfl; simp at hj)))
                     exact ⟨hB, (fun b hb => (f123 b (by simp at hb ⊢; try omega)).trans ((f103 b (by simp at hb ⊢; try omega)).trans ((f83 b (by simp at hb ⊢; try omega)).trans ((f61 b (by simp at hb ⊢; try omega)).trans (rfl))))), (fun j hj => (o123 j (by simp at hj ⊢; try omega)).trans ((o103 j (by simp at hj ⊢; try omega)).trans ((o83 j (by simp at hj ⊢; try omega)).trans ((o61 j (by simp at hj ⊢; try omega)).trans (rfl))))), by rw [pe_kk_p hs.1, if_pos (by omega), pe_q_n1]; exact hA2, pe_rk_e hs.1 (by omega) (by omega)⟩)
                  | (have hA2 := pe_ra_f hA (fun b hb => ((f123 b (by rintro rfl; simp at hb)).trans ((f103 b (by rintro rfl; simp at hb)).trans ((f83 b (by rintro rfl; simp at hb)).trans (f61 b (by rintro rfl; simp at hb)))))) (fun j hj => ((o123 j (by rintro rfl; simp at hj)).trans ((o103 j (by rintro rfl; simp at hj)).trans ((o83 j (by rintro rfl; simp at hj)).trans (o61 j (by rintro rfl; simp at hj))))))
                     exact ⟨hB, (fun b hb => (f123 b (by simp at hb ⊢; try omega)).trans ((f103 b (by simp at hb ⊢; try omega)).trans ((f83 b (by simp at hb ⊢; try omega)).trans ((f61 b (by simp at hb ⊢; try omega)).trans (rfl))))), (fun j hj => (o123 j (by simp at hj ⊢; try omega)).trans ((o103 j (by simp at hj ⊢; try omega)).trans ((o83 j (by simp at hj ⊢; try omega)).trans ((o61 j (by simp at hj ⊢; try omega)).trans (rfl))))), by rw [pe_kk_p hs.1, if_pos (by omega), pe_q_n1]; exact hA2, pe_rk_l hs.1 (by omega) (by omega)⟩)
                  | (exact ⟨hB, (fun b hb => (f123 b (by simp at hb ⊢; try omega)).trans ((f103 b (by simp at hb ⊢; try omega)).trans ((f83 b (by simp at hb ⊢; try omega)).trans ((f61 b (by simp at hb ⊢; try omega)).trans (rfl))))), (fun j hj => (o123 j (by simp at hj ⊢; try omega)).trans ((o103 j (by simp at hj ⊢; try omega)).trans ((o83 j (by simp at hj ⊢; try omega)).trans ((o61 j (by simp at hj ⊢; try omega)).trans (rfl))))), by rw [pe_kk_p hs.1, if_neg (by omega), if_neg (by omega), if_neg (by omega), pe_q_c (by omega)]; exact x28, pe_rk_p hs.1 (by omega) (by omega)⟩)
                  | (exact ⟨hB, (fun b hb => (f123 b (by simp at hb ⊢; try omega)).trans ((f103 b (by simp at hb ⊢; try omega)).trans ((f83 b (by simp at hb ⊢; try omega)).trans ((f61 b (by simp at hb ⊢; try omega)).trans (rfl))))), (fun j hj => (o123 j (by simp at hj ⊢; try omega)).trans ((o103 j (by simp at hj ⊢; try omega)).trans ((o83 j (by simp at hj ⊢; try omega)).trans ((o61 j (by simp at hj ⊢; try omega)).trans (rfl))))), by rw [pe_kk_p hs.1, if_neg (by omega), if_pos (by omega), pe_q_c (by omega)]; exact x139, pe_rk_p hs.1 (by omega) (by omega)⟩)
                  | (exact ⟨hB, (fun b hb => (f123 b (by simp at hb ⊢; try omega)).trans ((f103 b (by simp at hb ⊢; try omega)).trans ((f83 b (by simp at hb ⊢; try omega)).trans ((f61 b (by simp at hb ⊢; try omega)).trans (rfl))))), (fun j hj => (o123 j (by simp at hj ⊢; try omega)).trans ((o103 j (by simp at hj ⊢; try omega)).trans ((o83 j (by simp at hj ⊢; try omega)).trans ((o61 j (by simp at hj ⊢; try omega)).trans (rfl))))), by rw [pe_kk_p hs.1, if_neg (by omega), if_neg (by omega), hs.2]; exact x148, pe_rk_p hs.1 (by omega) (by omega)⟩)
                · skip
                  refine pe_sipush d_M_plain_114 ?_
                  refine pe_goto (t := 123) d_M_plain_117 ?_
                  refine pe_putiT f_M_193 g_11_18 d_M_plain_123 rfl rfl 18 rfl hB (by first | exact hB _ _ | exact hB0 _ _ | exact hBt _ _ | exact ⟨by omega, by omega⟩) (fun σ123 hB e123 o123 f123 => ?_)
                  try have u123_0 : σ123 29 1 = σ103 29 1 := by first | exact o123 1 (by decide) | exact congrFun (f123 29 (by decide)) 1
                  try have u123_1 : σ123 29 2 = σ103 29 2 := by first | exact o123 2 (by decide) | exact congrFun (f123 29 (by decide)) 2
                  try have u123_2 : σ123 29 3 = σ103 29 3 := by first | exact o123 3 (by decide) | exact congrFun (f123 29 (by decide)) 3
                  try have u123_3 : σ123 29 5 = σ103 29 5 := by first | exact o123 5 (by decide) | exact congrFun (f123 29 (by decide)) 5
                  try have u123_4 : σ123 29 6 = σ103 29 6 := by first | exact o123 6 (by decide) | exact congrFun (f123 29 (by decide)) 6
                  try have u123_5 : σ123 29 7 = σ103 29 7 := by first | exact o123 7 (by decide) | exact congrFun (f123 29 (by decide)) 7
                  try have u123_6 : σ123 29 19 = σ103 29 19 := by first | exact o123 19 (by decide) | exact congrFun (f123 29 (by decide)) 19
                  try have u123_7 : σ123 29 21 = σ103 29 21 := by first | exact o123 21 (by decide) | exact congrFun (f123 29 (by decide)) 21
                  try have u123_8 : σ123 29 13 = σ103 29 13 := by first | exact o123 13 (by decide) | exact congrFun (f123 29 (by decide)) 13
                  try have u123_9 : σ123 29 14 = σ103 29 14 := by first | exact o123 14 (by decide) | exact congrFun (f123 29 (by decide)) 14
                  try have u123_10 : σ123 29 15 = σ103 29 15 := by first | exact o123 15 (by decide) | exact congrFun (f123 29 (by decide)) 15
                  try have u123_11 : σ123 29 16 = σ103 29 16 := by first | exact o123 16 (by decide) | exact congrFun (f123 29 (by decide)) 16
                  try have u123_12 : σ123 29 17 = σ103 29 17 := by first | exact o123 17 (by decide) | exact congrFun (f123 29 (by decide)) 17
                  try have u123_13 : σ123 29 18 = σ103 29 18 := by first | exact o123 18 (by decide) | exact congrFun (f123 29 (by decide)) 18
                  try have u123_14 : σ123 29 20 = σ103 29 20 := by first | exact o123 20 (by decide) | exact congrFun (f123 29 (by decide)) 20
                  refine pe_goto (t := 151) d_M_plain_126 ?_
                  refine pe_rv d_M_plain_151 ?_
                  first
                  | (exfalso; omega)
                  | (have hA2 := pe_ra_f hA (fun b hb => (f8 b (by rintro rfl; simp at hb))) (fun j hj => (o8 j (by rintro rfl; simp at hj)))
                     exact ⟨hB, (fun b hb => (f123 b (by simp at hb ⊢; try omega)).trans ((f103 b (by simp at hb ⊢; try omega)).trans ((f83 b (by simp at hb ⊢; try omega)).trans ((f61 b (by simp at hb ⊢; try omega)).trans (rfl))))), (fun j hj => (o123 j (by simp at hj ⊢; try omega)).trans ((o103 j (by simp at hj ⊢; try omega)).trans ((o83 j (by simp at hj ⊢; try omega)).trans ((o61 j (by simp at hj ⊢; try omega)).trans (rfl))))), by rw [pe_kk_p hs.1, if_pos (by omega), pe_q_n1]; exact hA2, pe_rk_e hs.1 (by omega) (by omega)⟩)
                  | (have hA2 := pe_ra_f hA (fun b hb => ((f123 b (by rintro rfl; simp at hb)).trans ((f103 b (by rintro rfl; simp at hb)).trans ((f83 b (by rintro rfl; simp at hb)).trans (f61 b (by rintro rfl; simp at hb)))))) (fun j hj => ((o123 j (by rintro rfl; simp at hj)).trans ((o103 j (by rintro rfl; simp at hj)).trans ((o83 j (by rintro rfl; simp at hj)).trans (o61 j (by rintro rfl; simp at hj))))))
                     exact ⟨hB, (fun b hb => (f123 b (by simp at hb ⊢; try omega)).trans ((f103 b (by simp at hb ⊢; try omega)).trans ((f83 b (by simp at hb ⊢; try omega)).trans ((f61 b (by simp at hb ⊢; try omega)).trans (rfl))))), (fun j hj => (o123 j (by simp at hj ⊢; try omega)).trans ((o103 j (by simp at hj ⊢; try omega)).trans ((o83 j (by simp at hj ⊢; try omega)).trans ((o61 j (by simp at hj ⊢; try omega)).trans (rfl))))), by rw [pe_kk_p hs.1, if_pos (by omega), pe_q_n1]; exact hA2, pe_rk_l hs.1 (by omega) (by omega)⟩)
                  | (exact ⟨hB, (fun b hb => (f123 b (by simp at hb ⊢; try omega)).trans ((f103 b (by simp at hb ⊢; try omega)).trans ((f83 b (by simp at hb ⊢; try omega)).trans ((f61 b (by simp at hb ⊢; try omega)).trans (rfl))))), (fun j hj => (o123 j (by simp at hj ⊢; try omega)).trans ((o103 j (by simp at hj ⊢; try omega)).trans ((o83 j (by simp at hj ⊢; try omega)).trans ((o61 j (by simp at hj ⊢; try omega)).trans (rfl))))), by rw [pe_kk_p hs.1, if_neg (by omega), if_neg (by omega), if_neg (by omega), pe_q_c (by omega)]; exact x28, pe_rk_p hs.1 (by omega) (by omega)⟩)
                  | (exact ⟨hB, (fun b hb => (f123 b (by simp at hb ⊢; try omega)).trans ((f103 b (by simp at hb ⊢; try omega)).trans ((f83 b (by simp at hb ⊢; try omega)).trans ((f61 b (by simp at hb ⊢; try omega)).trans (rfl))))), (fun j hj => (o123 j (by simp at hj ⊢; try omega)).trans ((o103 j (by simp at hj ⊢; try omega)).trans ((o83 j (by simp at hj ⊢; try omega)).trans ((o61 j (by simp at hj ⊢; try omega)).trans (rfl))))), by rw [pe_kk_p hs.1, if_neg (by omega), if_pos (by omega), pe_q_c (by omega)]; exact x139, pe_rk_p hs.1 (by omega) (by omega)⟩)
                  | (exact ⟨hB, (fun b hb => (f123 b (by simp at hb ⊢; try omega)).trans ((f103 b (by simp at hb ⊢; try omega)).trans ((f83 b (by simp at hb ⊢; try omega)).trans ((f61 b (by simp at hb ⊢; try omega)).trans (rfl))))), (fun j hj => (o123 j (by simp at hj ⊢; try omega)).trans ((o103 j (by simp at hj ⊢; try omega)).trans ((o83 j (by simp at hj ⊢; try omega)).trans ((o61 j (by simp at hj ⊢; try omega)).trans (rfl))))), by rw [pe_kk_p hs.1, if_neg (by omega), if_neg (by omega), hs.2]; exact x148, pe_rk_p hs.1 (by omega) (by omega)⟩)
              · skip
                refine pe_sipush d_M_plain_94 ?_
                refine pe_goto (t := 103) d_M_plain_97 ?_
                refine pe_putiT f_M_190 g_11_17 d_M_plain_103 rfl rfl 17 rfl hB (by first | exact hB _ _ | exact hB0 _ _ | exact hBt _ _ | exact ⟨by omega, by omega⟩) (fun σ103 hB e103 o103 f103 => ?_)
                try have u103_0 : σ103 29 1 = σ83 29 1 := by first | exact o103 1 (by decide) | exact congrFun (f103 29 (by decide)) 1
                try have u103_1 : σ103 29 2 = σ83 29 2 := by first | exact o103 2 (by decide) | exact congrFun (f103 29 (by decide)) 2
                try have u103_2 : σ103 29 3 = σ83 29 3 := by first | exact o103 3 (by decide) | exact congrFun (f103 29 (by decide)) 3
                try have u103_3 : σ103 29 5 = σ83 29 5 := by first | exact o103 5 (by decide) | exact congrFun (f103 29 (by decide)) 5
                try have u103_4 : σ103 29 6 = σ83 29 6 := by first | exact o103 6 (by decide) | exact congrFun (f103 29 (by decide)) 6
                try have u103_5 : σ103 29 7 = σ83 29 7 := by first | exact o103 7 (by decide) | exact congrFun (f103 29 (by decide)) 7
                try have u103_6 : σ103 29 19 = σ83 29 19 := by first | exact o103 19 (by decide) | exact congrFun (f103 29 (by decide)) 19
                try have u103_7 : σ103 29 21 = σ83 29 21 := by first | exact o103 21 (by decide) | exact congrFun (f103 29 (by decide)) 21
                try have u103_8 : σ103 29 13 = σ83 29 13 := by first | exact o103 13 (by decide) | exact congrFun (f103 29 (by decide)) 13
                try have u103_9 : σ103 29 14 = σ83 29 14 := by first | exact o103 14 (by decide) | exact congrFun (f103 29 (by decide)) 14
                try have u103_10 : σ103 29 15 = σ83 29 15 := by first | exact o103 15 (by decide) | exact congrFun (f103 29 (by decide)) 15
                try have u103_11 : σ103 29 16 = σ83 29 16 := by first | exact o103 16 (by decide) | exact congrFun (f103 29 (by decide)) 16
                try have u103_12 : σ103 29 17 = σ83 29 17 := by first | exact o103 17 (by decide) | exact congrFun (f103 29 (by decide)) 17
                try have u103_13 : σ103 29 18 = σ83 29 18 := by first | exact o103 18 (by decide) | exact congrFun (f103 29 (by decide)) 18
                try have u103_14 : σ103 29 20 = σ83 29 20 := by first | exact o103 20 (by decide) | exact congrFun (f103 29 (by decide)) 20
                refine pe_aload_n d_M_plain_106 rfl ?_
                refine pe_iload_n d_M_plain_107 rfl ?_
                refine pe_sipush d_M_plain_108 ?_
                refine pe_icmp_ne (t := 120) d_M_plain_111 (by first | exact hB _ _ | exact hB0 _ _ | exact hBt _ _ | exact ⟨by omega, by omega⟩) (by first | exact hB _ _ | exact hB0 _ _ | exact hBt _ _ | exact ⟨by omega, by omega⟩) (fun h111 => ?_) (fun h111 => ?_)
                · skip
                  refine pe_sipush d_M_plain_120 ?_
                  refine pe_putiT f_M_193 g_11_18 d_M_plain_123 rfl rfl 18 rfl hB (by first | exact hB _ _ | exact hB0 _ _ | exact hBt _ _ | exact ⟨by omega, by omega⟩) (fun σ123 hB e123 o123 f123 => ?_)
                  try have u123_0 : σ123 29 1 = σ103 29 1 := by first | exact o123 1 (by decide) | exact congrFun (f123 29 (by decide)) 1
                  try have u123_1 : σ123 29 2 = σ103 29 2 := by first | exact o123 2 (by decide) | exact congrFun (f123 29 (by decide)) 2
                  try have u123_2 : σ123 29 3 = σ103 29 3 := by first | exact o123 3 (by decide) | exact congrFun (f123 29 (by decide)) 3
                  try have u123_3 : σ123 29 5 = σ103 29 5 := by first | exact o123 5 (by decide) | exact congrFun (f123 29 (by decide)) 5
                  try have u123_4 : σ123 29 6 = σ103 29 6 := by first | exact o123 6 (by decide) | exact congrFun (f123 29 (by decide)) 6
                  try have u123_5 : σ123 29 7 = σ103 29 7 := by first | exact o123 7 (by decide) | exact congrFun (f123 29 (by decide)) 7
                  try have u123_6 : σ123 29 19 = σ103 29 19 := by first | exact o123 19 (by decide) | exact congrFun (f123 29 (by decide)) 19
                  try have u123_7 : σ123 29 21 = σ103 29 21 := by first | exact o123 21 (by decide) | exact congrFun (f123 29 (by decide)) 21
                  try have u123_8 : σ123 29 13 = σ103 29 13 := by first | exact o123 13 (by decide) | exact congrFun (f123 29 (by decide)) 13
                  try have u123_9 : σ123 29 14 = σ103 29 14 := by first | exact o123 14 (by decide) | exact congrFun (f123 29 (by decide)) 14
                  try have u123_10 : σ123 29 15 = σ103 29 15 := by first | exact o123 15 (by decide) | exact congrFun (f123 29 (by decide)) 15
                  try have u123_11 : σ123 29 16 = σ103 29 16 := by first | exact o123 16 (by decide) | exact congrFun (f123 29 (by decide)) 16
                  try have u123_12 : σ123 29 17 = σ103 29 17 := by first | exact o123 17 (by decide) | exact congrFun (f123 29 (by decide)) 17
                  try have u123_13 : σ123 29 18 = σ103 29 18 := by first | exact o123 18 (by decide) | exact congrFun (f123 29 (by decide)) 18
                  try have u123_14 : σ123 29 20 = σ103 29 20 := by first | exact o123 20 (by decide) | exact congrFun (f123 29 (by decide)) 20
                  refine pe_goto (t := 151) d_M_plain_126 ?_
                  refine pe_rv d_M_plain_151 ?_
                  first
                  | (exfalso; omega)
                  | (have hA2 := pe_ra_f hA (fun b hb => (f8 b (by rintro rfl; simp at hb))) (fun j hj => (o8 j (by rintro rfl; simp at hj)))
                     exact ⟨hB, (fun b hb => (f123 b (by simp at hb ⊢; try omega)).trans ((f103 b (by simp at hb ⊢; try omega)).trans ((f83 b (by simp at hb ⊢; try omega)).trans ((f61 b (by simp at hb ⊢; try omega)).trans (rfl))))), (fun j hj => (o123 j (by simp at hj ⊢; try omega)).trans ((o103 j (by simp at hj ⊢; try omega)).trans ((o83 j (by simp at hj ⊢; try omega)).trans ((o61 j (by simp at hj ⊢; try omega)).trans (rfl))))), by rw [pe_kk_p hs.1, if_pos (by omega), pe_q_n1]; exact hA2, pe_rk_e hs.1 (by omega) (by omega)⟩)
                  | (have hA2 := pe_ra_f hA (fun b hb => ((f123 b (by rintro rfl; simp at hb)).trans ((f103 b (by rintro rfl; simp at hb)).trans ((f83 b (by rintro rfl; simp at hb)).trans (f61 b (by rintro rfl; simp at hb)))))) (fun j hj => ((o123 j (by rintro rfl; simp at hj)).trans ((o103 j (by rintro rfl; simp at hj)).trans ((o83 j (by rintro rfl; simp at hj)).trans (o61 j (by rintro rfl; simp at hj))))))
                     exact ⟨hB, (fun b hb => (f123 b (by simp at hb ⊢; try omega)).trans ((f103 b (by simp at hb ⊢; try omega)).trans ((f83 b (by simp at hb ⊢; try omega)).trans ((f61 b (by simp at hb ⊢; try omega)).trans (rfl))))), (fun j hj => (o123 j (by simp at hj ⊢; try omega)).trans ((o103 j (by simp at hj ⊢; try omega)).trans ((o83 j (by simp at hj ⊢; try omega)).trans ((o61 j (by simp at hj ⊢; try omega)).trans (rfl))))), by rw [pe_kk_p hs.1, if_pos (by omega), pe_q_n1]; exact hA2, pe_rk_l hs.1 (by omega) (by omega)⟩)
                  | (exact ⟨hB, (fun b hb => (f123 b (by simp at hb ⊢; try omega)).trans ((f103 b (by simp at hb ⊢; try omega)).trans ((f83 b (by simp at hb ⊢; try omega)).trans ((f61 b (by simp at hb ⊢; try omega)).trans (rfl))))), (fun j hj => (o123 j (by simp at hj ⊢; try omega)).trans ((o103 j (by simp at hj ⊢; try omega)).trans ((o83 j (by simp at hj ⊢; try omega)).trans ((o61 j (by simp at hj ⊢; try omega)).trans (rfl))))), by rw [pe_kk_p hs.1, if_neg (by omega), if_neg (by omega), if_neg (by omega), pe_q_c (by omega)]; exact x28, pe_rk_p hs.1 (by omega) (by omega)⟩)
                  | (exact ⟨hB, (fun b hb => (f123 b (by simp at hb ⊢; try omega)).trans ((f103 b (by simp at hb ⊢; try omega)).trans ((f83 b (by simp at hb ⊢; try omega)).trans ((f61 b (by simp at hb ⊢; try omega)).trans (rfl))))), (fun j hj => (o123 j (by simp at hj ⊢; try omega)).trans ((o103 j (by simp at hj ⊢; try omega)).trans ((o83 j (by simp at hj ⊢; try omega)).trans ((o61 j (by simp at hj ⊢; try omega)).trans (rfl))))), by rw [pe_kk_p hs.1, if_neg (by omega), if_pos (by omega), pe_q_c (by omega)]; exact x139, pe_rk_p hs.1 (by omega) (by omega)⟩)
                  | (exact ⟨hB, (fun b hb => (f123 b (by simp at hb ⊢; try omega)).trans ((f103 b (by simp at hb ⊢; try omega)).trans ((f83 b (by simp at hb ⊢; try omega)).trans ((f61 b (by simp at hb ⊢; try omega)).trans (rfl))))), (fun j hj => (o123 j (by simp at hj ⊢; try omega)).trans ((o103 j (by simp at hj ⊢; try omega)).trans ((o83 j (by simp at hj ⊢; try omega)).trans ((o61 j (by simp at hj ⊢; try omega)).trans (rfl))))), by rw [pe_kk_p hs.1, if_neg (by omega), if_neg (by omega), hs.2]; exact x148, pe_rk_p hs.1 (by omega) (by omega)⟩)
                · skip
                  refine pe_sipush d_M_plain_114 ?_
                  refine pe_goto (t := 123) d_M_plain_117 ?_
                  refine pe_putiT f_M_193 g_11_18 d_M_plain_123 rfl rfl 18 rfl hB (by first | exact hB _ _ | exact hB0 _ _ | exact hBt _ _ | exact ⟨by omega, by omega⟩) (fun σ123 hB e123 o123 f123 => ?_)
                  try have u123_0 : σ123 29 1 = σ103 29 1 := by first | exact o123 1 (by decide) | exact congrFun (f123 29 (by decide)) 1
                  try have u123_1 : σ123 29 2 = σ103 29 2 := by first | exact o123 2 (by decide) | exact congrFun (f123 29 (by decide)) 2
                  try have u123_2 : σ123 29 3 = σ103 29 3 := by first | exact o123 3 (by decide) | exact congrFun (f123 29 (by decide)) 3
                  try have u123_3 : σ123 29 5 = σ103 29 5 := by first | exact o123 5 (by decide) | exact congrFun (f123 29 (by decide)) 5
                  try have u123_4 : σ123 29 6 = σ103 29 6 := by first | exact o123 6 (by decide) | exact congrFun (f123 29 (by decide)) 6
                  try have u123_5 : σ123 29 7 = σ103 29 7 := by first | exact o123 7 (by decide) | exact congrFun (f123 29 (by decide)) 7
                  try have u123_6 : σ123 29 19 = σ103 29 19 := by first | exact o123 19 (by decide) | exact congrFun (f123 29 (by decide)) 19
                  try have u123_7 : σ123 29 21 = σ103 29 21 := by first | exact o123 21 (by decide) | exact congrFun (f123 29 (by decide)) 21
                  try have u123_8 : σ123 29 13 = σ103 29 13 := by first | exact o123 13 (by decide) | exact congrFun (f123 29 (by decide)) 13
                  try have u123_9 : σ123 29 14 = σ103 29 14 := by first | exact o123 14 (by decide) | exact congrFun (f123 29 (by decide)) 14
                  try have u123_10 : σ123 29 15 = σ103 29 15 := by first | exact o123 15 (by decide) | exact congrFun (f123 29 (by decide)) 15
                  try have u123_11 : σ123 29 16 = σ103 29 16 := by first | exact o123 16 (by decide) | exact congrFun (f123 29 (by decide)) 16
                  try have u123_12 : σ123 29 17 = σ103 29 17 := by first | exact o123 17 (by decide) | exact congrFun (f123 29 (by decide)) 17
                  try have u123_13 : σ123 29 18 = σ103 29 18 := by first | exact o123 18 (by decide) | exact congrFun (f123 29 (by decide)) 18
                  try have u123_14 : σ123 29 20 = σ103 29 20 := by first | exact o123 20 (by decide) | exact congrFun (f123 29 (by decide)) 20
                  refine pe_goto (t := 151) d_M_plain_126 ?_
                  refine pe_rv d_M_plain_151 ?_
                  first
                  | (exfalso; omega)
                  | (have hA2 := pe_ra_f hA (fun b hb => (f8 b (by rintro rfl; simp at hb))) (fun j hj => (o8 j (by rintro rfl; simp at hj)))
                     exact ⟨hB, (fun b hb => (f123 b (by simp at hb ⊢; try omega)).trans ((f103 b (by simp at hb ⊢; try omega)).trans ((f83 b (by simp at hb ⊢; try omega)).trans ((f61 b (by simp at hb ⊢; try omega)).trans (rfl))))), (fun j hj => (o123 j (by simp at hj ⊢; try omega)).trans ((o103 j (by simp at hj ⊢; try omega)).trans ((o83 j (by simp at hj ⊢; try omega)).trans ((o61 j (by simp at hj ⊢; try omega)).trans (rfl))))), by rw [pe_kk_p hs.1, if_pos (by omega), pe_q_n1]; exact hA2, pe_rk_e hs.1 (by omega) (by omega)⟩)
                  | (have hA2 := pe_ra_f hA (fun b hb => ((f123 b (by rintro rfl; simp at hb)).trans ((f103 b (by rintro rfl; simp at hb)).trans ((f83 b (by rintro rfl; simp at hb)).trans (f61 b (by rintro rfl; simp at hb)))))) (fun j hj => ((o123 j (by rintro rfl; simp at hj)).trans ((o103 j (by rintro rfl; simp at hj)).trans ((o83 j (by rintro rfl; simp at hj)).trans (o61 j (by rintro rfl; simp at hj))))))
                     exact ⟨hB, (fun b hb => (f123 b (by simp at hb ⊢; try omega)).trans ((f103 b (by simp at hb ⊢; try omega)).trans ((f83 b (by simp at hb ⊢; try omega)).trans ((f61 b (by simp at hb ⊢; try omega)).trans (rfl))))), (fun j hj => (o123 j (by simp at hj ⊢; try omega)).trans ((o103 j (by simp at hj ⊢; try omega)).trans ((o83 j (by simp at hj ⊢; try omega)).trans ((o61 j (by simp at hj ⊢; try omega)).trans (rfl))))), by rw [pe_kk_p hs.1, if_pos (by omega), pe_q_n1]; exact hA2, pe_rk_l hs.1 (by omega) (by omega)⟩)
                  | (exact ⟨hB, (fun b hb => (f123 b (by simp at hb ⊢; try omega)).trans ((f103 b (by simp at hb ⊢; try omega)).trans ((f83 b (by simp at hb ⊢; try omega)).trans ((f61 b (by simp at hb ⊢; try omega)).trans (rfl))))), (fun j hj => (o123 j (by simp at hj ⊢; try omega)).trans ((o103 j (by simp at hj ⊢; try omega)).trans ((o83 j (by simp at hj ⊢; try omega)).trans ((o61 j (by simp at hj ⊢; try omega)).trans (rfl))))), by rw [pe_kk_p hs.1, if_neg (by omega), if_neg (by omega), if_neg (by omega), pe_q_c (by omega)]; exact x28, pe_rk_p hs.1 (by omega) (by omega)⟩)
                  | (exact ⟨hB, (fun b hb => (f123 b (by simp at hb ⊢; try omega)).trans ((f103 b (by simp at hb ⊢; try omega)).trans ((f83 b (by simp at hb ⊢; try omega)).trans ((f61 b (by simp at hb ⊢; try omega)).trans (rfl))))), (fun j hj => (o123 j (by simp at hj ⊢; try omega)).trans ((o103 j (by simp at hj ⊢; try omega)).trans ((o83 j (by simp at hj ⊢; try omega)).trans ((o61 j (by simp at hj ⊢; try omega)).trans (rfl))))), by rw [pe_kk_p hs.1, if_neg (by omega), if_pos (by omega), pe_q_c (by omega)]; exact x139, pe_rk_p hs.1 (by omega) (by omega)⟩)
                  | (exact ⟨hB, (fun b hb => (f123 b (by simp at hb ⊢; try omega)).trans ((f103 b (by simp at hb ⊢; try omega)).trans ((f83 b (by simp at hb ⊢; try omega)).trans ((f61 b (by simp at hb ⊢; try omega)).trans (rfl))))), (fun j hj => (o123 j (by simp at hj ⊢; try omega)).trans ((o103 j (by simp at hj ⊢; try omega)).trans ((o83 j (by simp at hj ⊢; try omega)).trans ((o61 j (by simp at hj ⊢; try omega)).trans (rfl))))), by rw [pe_kk_p hs.1, if_neg (by omega), if_neg (by omega), hs.2]; exact x148, pe_rk_p hs.1 (by omega) (by omega)⟩)
            · skip
              refine pe_iload_n d_M_plain_72 rfl ?_
              refine pe_bipush d_M_plain_73 ?_
              refine pe_iand d_M_plain_75 (pe_and 5 32 (by omega) (by omega)) ?_
              refine pe_goto (t := 83) d_M_plain_76 ?_
              refine pe_putiT f_M_187 g_11_16 d_M_plain_83 rfl rfl 16 rfl hB (by first | exact hB _ _ | exact hB0 _ _ | exact hBt _ _ | exact ⟨by omega, by omega⟩) (fun σ83 hB e83 o83 f83 => ?_)
              try have u83_0 : σ83 29 1 = σ61 29 1 := by first | exact o83 1 (by decide) | exact congrFun (f83 29 (by decide)) 1
              try have u83_1 : σ83 29 2 = σ61 29 2 := by first | exact o83 2 (by decide) | exact congrFun (f83 29 (by decide)) 2
              try have u83_2 : σ83 29 3 = σ61 29 3 := by first | exact o83 3 (by decide) | exact congrFun (f83 29 (by decide)) 3
              try have u83_3 : σ83 29 5 = σ61 29 5 := by first | exact o83 5 (by decide) | exact congrFun (f83 29 (by decide)) 5
              try have u83_4 : σ83 29 6 = σ61 29 6 := by first | exact o83 6 (by decide) | exact congrFun (f83 29 (by decide)) 6
              try have u83_5 : σ83 29 7 = σ61 29 7 := by first | exact o83 7 (by decide) | exact congrFun (f83 29 (by decide)) 7
              try have u83_6 : σ83 29 19 = σ61 29 19 := by first | exact o83 19 (by decide) | exact congrFun (f83 29 (by decide)) 19
              try have u83_7 : σ83 29 21 = σ61 29 21 := by first | exact o83 21 (by decide) | exact congrFun (f83 29 (by decide)) 21
              try have u83_8 : σ83 29 13 = σ61 29 13 := by first | exact o83 13 (by decide) | exact congrFun (f83 29 (by decide)) 13
              try have u83_9 : σ83 29 14 = σ61 29 14 := by first | exact o83 14 (by decide) | exact congrFun (f83 29 (by decide)) 14
              try have u83_10 : σ83 29 15 = σ61 29 15 := by first | exact o83 15 (by decide) | exact congrFun (f83 29 (by decide)) 15
              try have u83_11 : σ83 29 16 = σ61 29 16 := by first | exact o83 16 (by decide) | exact congrFun (f83 29 (by decide)) 16
              try have u83_12 : σ83 29 17 = σ61 29 17 := by first | exact o83 17 (by decide) | exact congrFun (f83 29 (by decide)) 17
              try have u83_13 : σ83 29 18 = σ61 29 18 := by first | exact o83 18 (by decide) | exact congrFun (f83 29 (by decide)) 18
              try have u83_14 : σ83 29 20 = σ61 29 20 := by first | exact o83 20 (by decide) | exact congrFun (f83 29 (by decide)) 20
              refine pe_aload_n d_M_plain_86 rfl ?_
              refine pe_iload_n d_M_plain_87 rfl ?_
              refine pe_sipush d_M_plain_88 ?_
              refine pe_icmp_ne (t := 100) d_M_plain_91 (by first | exact hB _ _ | exact hB0 _ _ | exact hBt _ _ | exact ⟨by omega, by omega⟩) (by first | exact hB _ _ | exact hB0 _ _ | exact hBt _ _ | exact ⟨by omega, by omega⟩) (fun h91 => ?_) (fun h91 => ?_)
              · skip
                refine pe_sipush d_M_plain_100 ?_
                refine pe_putiT f_M_190 g_11_17 d_M_plain_103 rfl rfl 17 rfl hB (by first | exact hB _ _ | exact hB0 _ _ | exact hBt _ _ | exact ⟨by omega, by omega⟩) (fun σ103 hB e103 o103 f103 => ?_)
                try have u103_0 : σ103 29 1 = σ83 29 1 := by first | exact o103 1 (by decide) | exact congrFun (f103 29 (by decide)) 1
                try have u103_1 : σ103 29 2 = σ83 29 2 := by first | exact o103 2 (by decide) | exact congrFun (f103 29 (by decide)) 2
                try have u103_2 : σ103 29 3 = σ83 29 3 := by first | exact o103 3 (by decide) | exact congrFun (f103 29 (by decide)) 3
                try have u103_3 : σ103 29 5 = σ83 29 5 := by first | exact o103 5 (by decide) | exact congrFun (f103 29 (by decide)) 5
                try have u103_4 : σ103 29 6 = σ83 29 6 := by first | exact o103 6 (by decide) | exact congrFun (f103 29 (by decide)) 6
                try have u103_5 : σ103 29 7 = σ83 29 7 := by first | exact o103 7 (by decide) | exact congrFun (f103 29 (by decide)) 7
                try have u103_6 : σ103 29 19 = σ83 29 19 := by first | exact o103 19 (by decide) | exact congrFun (f103 29 (by decide)) 19
                try have u103_7 : σ103 29 21 = σ83 29 21 := by first | exact o103 21 (by decide) | exact congrFun (f103 29 (by decide)) 21
                try have u103_8 : σ103 29 13 = σ83 29 13 := by first | exact o103 13 (by decide) | exact congrFun (f103 29 (by decide)) 13
                try have u103_9 : σ103 29 14 = σ83 29 14 := by first | exact o103 14 (by decide) | exact congrFun (f103 29 (by decide)) 14
                try have u103_10 : σ103 29 15 = σ83 29 15 := by first | exact o103 15 (by decide) | exact congrFun (f103 29 (by decide)) 15
                try have u103_11 : σ103 29 16 = σ83 29 16 := by first | exact o103 16 (by decide) | exact congrFun (f103 29 (by decide)) 16
                try have u103_12 : σ103 29 17 = σ83 29 17 := by first | exact o103 17 (by decide) | exact congrFun (f103 29 (by decide)) 17
                try have u103_13 : σ103 29 18 = σ83 29 18 := by first | exact o103 18 (by decide) | exact congrFun (f103 29 (by decide)) 18
                try have u103_14 : σ103 29 20 = σ83 29 20 := by first | exact o103 20 (by decide) | exact congrFun (f103 29 (by decide)) 20
                refine pe_aload_n d_M_plain_106 rfl ?_
                refine pe_iload_n d_M_plain_107 rfl ?_
                refine pe_sipush d_M_plain_108 ?_
                refine pe_icmp_ne (t := 120) d_M_plain_111 (by first | exact hB _ _ | exact hB0 _ _ | exact hBt _ _ | exact ⟨by omega, by omega⟩) (by first | exact hB _ _ | exact hB0 _ _ | exact hBt _ _ | exact ⟨by omega, by omega⟩) (fun h111 => ?_) (fun h111 => ?_)
                · skip
                  refine pe_sipush d_M_plain_120 ?_
                  refine pe_putiT f_M_193 g_11_18 d_M_plain_123 rfl rfl 18 rfl hB (by first | exact hB _ _ | exact hB0 _ _ | exact hBt _ _ | exact ⟨by omega, by omega⟩) (fun σ123 hB e123 o123 f123 => ?_)
                  try have u123_0 : σ123 29 1 = σ103 29 1 := by first | exact o123 1 (by decide) | exact congrFun (f123 29 (by decide)) 1
                  try have u123_1 : σ123 29 2 = σ103 29 2 := by first | exact o123 2 (by decide) | exact congrFun (f123 29 (by decide)) 2
                  try have u123_2 : σ123 29 3 = σ103 29 3 := by first | exact o123 3 (by decide) | exact congrFun (f123 29 (by decide)) 3
                  try have u123_3 : σ123 29 5 = σ103 29 5 := by first | exact o123 5 (by decide) | exact congrFun (f123 29 (by decide)) 5
                  try have u123_4 : σ123 29 6 = σ103 29 6 := by first | exact o123 6 (by decide) | exact congrFun (f123 29 (by decide)) 6
                  try have u123_5 : σ123 29 7 = σ103 29 7 := by first | exact o123 7 (by decide) | exact congrFun (f123 29 (by decide)) 7
                  try have u123_6 : σ123 29 19 = σ103 29 19 := by first | exact o123 19 (by decide) | exact congrFun (f123 29 (by decide)) 19
                  try have u123_7 : σ123 29 21 = σ103 29 21 := by first | exact o123 21 (by decide) | exact congrFun (f123 29 (by decide)) 21
                  try have u123_8 : σ123 29 13 = σ103 29 13 := by first | exact o123 13 (by decide) | exact congrFun (f123 29 (by decide)) 13
                  try have u123_9 : σ123 29 14 = σ103 29 14 := by first | exact o123 14 (by decide) | exact congrFun (f123 29 (by decide)) 14
                  try have u123_10 : σ123 29 15 = σ103 29 15 := by first | exact o123 15 (by decide) | exact congrFun (f123 29 (by decide)) 15
                  try have u123_11 : σ123 29 16 = σ103 29 16 := by first | exact o123 16 (by decide) | exact congrFun (f123 29 (by decide)) 16
                  try have u123_12 : σ123 29 17 = σ103 29 17 := by first | exact o123 17 (by decide) | exact congrFun (f123 29 (by decide)) 17
                  try have u123_13 : σ123 29 18 = σ103 29 18 := by first | exact o123 18 (by decide) | exact congrFun (f123 29 (by decide)) 18
                  try have u123_14 : σ123 29 20 = σ103 29 20 := by first | exact o123 20 (by decide) | exact congrFun (f123 29 (by decide)) 20
                  refine pe_goto (t := 151) d_M_plain_126 ?_
                  refine pe_rv d_M_plain_151 ?_
                  first
                  | (exfalso; omega)
                  | (have hA2 := pe_ra_f hA (fun b hb => (f8 b (by rintro rfl; simp at hb))) (fun j hj => (o8 j (by rintro rfl; simp at hj)))
                     exact ⟨hB, (fun b hb => (f123 b (by simp at hb ⊢; try omega)).trans ((f103 b (by simp at hb ⊢; try omega)).trans ((f83 b (by simp at hb ⊢; try omega)).trans ((f61 b (by simp at hb ⊢; try omega)).trans (rfl))))), (fun j hj => (o123 j (by simp at hj ⊢; try omega)).trans ((o103 j (by simp at hj ⊢; try omega)).trans ((o83 j (by simp at hj ⊢; try omega)).trans ((o61 j (by simp at hj ⊢; try omega)).trans (rfl))))), by rw [pe_kk_p hs.1, if_pos (by omega), pe_q_n1]; exact hA2, pe_rk_e hs.1 (by omega) (by omega)⟩)
                  | (have hA2 := pe_ra_f hA (fun b hb => ((f123 b (by rintro rfl; simp at hb)).trans ((f103 b (by rintro rfl; simp at hb)).trans ((f83 b (by rintro rfl; simp at hb)).trans (f61 b (by rintro rfl; simp at hb)))))) (fun j hj => ((o123 j (by rintro rfl; simp at hj)).trans ((o103 j (by rintro rfl; simp at hj)).trans ((o83 j (by rintro rfl; simp at hj)).trans (o61 j (by rintro rfl; simp at hj))))))
                     exact ⟨hB, (fun b hb => (f123 b (by simp at hb ⊢; try omega)).trans ((f103 b (by simp at hb ⊢; try omega)).trans ((f83 b (by simp at hb ⊢; try omega)).trans ((f61 b (by simp at hb ⊢; try omega)).trans (rfl))))), (fun j hj => (o123 j (by simp at hj ⊢; try omega)).trans ((o103 j (by simp at hj ⊢; try omega)).trans ((o83 j (by simp at hj ⊢; try omega)).trans ((o61 j (by simp at hj ⊢; try omega)).trans (rfl))))), by rw [pe_kk_p hs.1, if_pos (by omega), pe_q_n1]; exact hA2, pe_rk_l hs.1 (by omega) (by omega)⟩)
                  | (exact ⟨hB, (fun b hb => (f123 b (by simp at hb ⊢; try omega)).trans ((f103 b (by simp at hb ⊢; try omega)).trans ((f83 b (by simp at hb ⊢; try omega)).trans ((f61 b (by simp at hb ⊢; try omega)).trans (rfl))))), (fun j hj => (o123 j (by simp at hj ⊢; try omega)).trans ((o103 j (by simp at hj ⊢; try omega)).trans ((o83 j (by simp at hj ⊢; try omega)).trans ((o61 j (by simp at hj ⊢; try omega)).trans (rfl))))), by rw [pe_kk_p hs.1, if_neg (by omega), if_neg (by omega), if_neg (by omega), pe_q_c (by omega)]; exact x28, pe_rk_p hs.1 (by omega) (by omega)⟩)
                  | (exact ⟨hB, (fun b hb => (f123 b (by simp at hb ⊢; try omega)).trans ((f103 b (by simp at hb ⊢; try omega)).trans ((f83 b (by simp at hb ⊢; try omega)).trans ((f61 b (by simp at hb ⊢; try omega)).trans (rfl))))), (fun j hj => (o123 j (by simp at hj ⊢; try omega)).trans ((o103 j (by simp at hj ⊢; try omega)).trans ((o83 j (by simp at hj ⊢; try omega)).trans ((o61 j (by simp at hj ⊢; try omega)).trans (rfl))))), by rw [pe_kk_p hs.1, if_neg (by omega), if_pos (by omega), pe_q_c (by omega)]; exact x139, pe_rk_p hs.1 (by omega) (by omega)⟩)
                  | (exact ⟨hB, (fun b hb => (f123 b (by simp at hb ⊢; try omega)).trans ((f103 b (by simp at hb ⊢; try omega)).trans ((f83 b (by simp at hb ⊢; try omega)).trans ((f61 b (by simp at hb ⊢; try omega)).trans (rfl))))), (fun j hj => (o123 j (by simp at hj ⊢; try omega)).trans ((o103 j (by simp at hj ⊢; try omega)).trans ((o83 j (by simp at hj ⊢; try omega)).trans ((o61 j (by simp at hj ⊢; try omega)).trans (rfl))))), by rw [pe_kk_p hs.1, if_neg (by omega), if_neg (by omega), hs.2]; exact x148, pe_rk_p hs.1 (by omega) (by omega)⟩)
                · skip
                  refine pe_sipush d_M_plain_114 ?_
                  refine pe_goto (t := 123) d_M_plain_117 ?_
                  refine pe_putiT f_M_193 g_11_18 d_M_plain_123 rfl rfl 18 rfl hB (by first | exact hB _ _ | exact hB0 _ _ | exact hBt _ _ | exact ⟨by omega, by omega⟩) (fun σ123 hB e123 o123 f123 => ?_)
                  try have u123_0 : σ123 29 1 = σ103 29 1 := by first | exact o123 1 (by decide) | exact congrFun (f123 29 (by decide)) 1
                  try have u123_1 : σ123 29 2 = σ103 29 2 := by first | exact o123 2 (by decide) | exact congrFun (f123 29 (by decide)) 2
                  try have u123_2 : σ123 29 3 = σ103 29 3 := by first | exact o123 3 (by decide) | exact congrFun (f123 29 (by decide)) 3
                  try have u123_3 : σ123 29 5 = σ103 29 5 := by first | exact o123 5 (by decide) | exact congrFun (f123 29 (by decide)) 5
                  try have u123_4 : σ123 29 6 = σ103 29 6 := by first | exact o123 6 (by decide) | exact congrFun (f123 29 (by decide)) 6
                  try have u123_5 : σ123 29 7 = σ103 29 7 := by first | exact o123 7 (by decide) | exact congrFun (f123 29 (by decide)) 7
                  try have u123_6 : σ123 29 19 = σ103 29 19 := by first | exact o123 19 (by decide) | exact congrFun (f123 29 (by decide)) 19
                  try have u123_7 : σ123 29 21 = σ103 29 21 := by first | exact o123 21 (by decide) | exact congrFun (f123 29 (by decide)) 21
                  try have u123_8 : σ123 29 13 = σ103 29 13 := by first | exact o123 13 (by decide) | exact congrFun (f123 29 (by decide)) 13
                  try have u123_9 : σ123 29 14 = σ103 29 14 := by first | exact o123 14 (by decide) | exact congrFun (f123 29 (by decide)) 14
                  try have u123_10 : σ123 29 15 = σ103 29 15 := by first | exact o123 15 (by decide) | exact congrFun (f123 29 (by decide)) 15
                  try have u123_11 : σ123 29 16 = σ103 29 16 := by first | exact o123 16 (by decide) | exact congrFun (f123 29 (by decide)) 16
                  try have u123_12 : σ123 29 17 = σ103 29 17 := by first | exact o123 17 (by decide) | exact congrFun (f123 29 (by decide)) 17
                  try have u123_13 : σ123 29 18 = σ103 29 18 := by first | exact o123 18 (by decide) | exact congrFun (f123 29 (by decide)) 18
                  try have u123_14 : σ123 29 20 = σ103 29 20 := by first | exact o123 20 (by decide) | exact congrFun (f123 29 (by decide)) 20
                  refine pe_goto (t := 151) d_M_plain_126 ?_
                  refine pe_rv d_M_plain_151 ?_
                  first
                  | (exfalso; omega)
                  | (have hA2 := pe_ra_f hA (fun b hb => (f8 b (by rintro rfl; simp at hb))) (fun j hj => (o8 j (by rintro rfl; simp at hj)))
                     exact ⟨hB, (fun b hb => (f123 b (by simp at hb ⊢; try omega)).trans ((f103 b (by simp at hb ⊢; try omega)).trans ((f83 b (by simp at hb ⊢; try omega)).trans ((f61 b (by simp at hb ⊢; try omega)).trans (rfl))))), (fun j hj => (o123 j (by simp at hj ⊢; try omega)).trans ((o103 j (by simp at hj ⊢; try omega)).trans ((o83 j (by simp at hj ⊢; try omega)).trans ((o61 j (by simp at hj ⊢; try omega)).trans (rfl))))), by rw [pe_kk_p hs.1, if_pos (by omega), pe_q_n1]; exact hA2, pe_rk_e hs.1 (by omega) (by omega)⟩)
                  | (have hA2 := pe_ra_f hA (fun b hb => ((f123 b (by rintro rfl; simp at hb)).trans ((f103 b (by rintro rfl; simp at hb)).trans ((f83 b (by rintro rfl; simp at hb)).trans (f61 b (by rintro rfl; simp at hb)))))) (fun j hj => ((o123 j (by rintro rfl; simp at hj)).trans ((o103 j (by rintro rfl; simp at hj)).trans ((o83 j (by rintro rfl; simp at hj)).trans (o61 j (by rintro rfl; simp at hj))))))
                     exact ⟨hB, (fun b hb => (f123 b (by simp at hb ⊢; try omega)).trans ((f103 b (by simp at hb ⊢; try omega)).trans ((f83 b (by simp at hb ⊢; try omega)).trans ((f61 b (by simp at hb ⊢; try omega)).trans (rfl))))), (fun j hj => (o123 j (by simp at hj ⊢; try omega)).trans ((o103 j (by simp at hj ⊢; try omega)).trans ((o83 j (by simp at hj ⊢; try omega)).trans ((o61 j (by simp at hj ⊢; try omega)).trans (rfl))))), by rw [pe_kk_p hs.1, if_pos (by omega), pe_q_n1]; exact hA2, pe_rk_l hs.1 (by omega) (by omega)⟩)
                  | (exact ⟨hB, (fun b hb => (f123 b (by simp at hb ⊢; try omega)).trans ((f103 b (by simp at hb ⊢; try omega)).trans ((f83 b (by simp at hb ⊢; try omega)).trans ((f61 b (by simp at hb ⊢; try omega)).trans (rfl))))), (fun j hj => (o123 j (by simp at hj ⊢; try omega)).trans ((o103 j (by simp at hj ⊢; try omega)).trans ((o83 j (by simp at hj ⊢; try omega)).trans ((o61 j (by simp at hj ⊢; try omega)).trans (rfl))))), by rw [pe_kk_p hs.1, if_neg (by omega), if_neg (by omega), if_neg (by omega), pe_q_c (by omega)]; exact x28, pe_rk_p hs.1 (by omega) (by omega)⟩)
                  | (exact ⟨hB, (fun b hb => (f123 b (by simp at hb ⊢; try omega)).trans ((f103 b (by simp at hb ⊢; try omega)).trans ((f83 b (by simp at hb ⊢; try omega)).trans ((f61 b (by simp at hb ⊢; try omega)).trans (rfl))))), (fun j hj => (o123 j (by simp at hj ⊢; try omega)).trans ((o103 j (by simp at hj ⊢; try omega)).trans ((o83 j (by simp at hj ⊢; try omega)).trans ((o61 j (by simp at hj ⊢; try omega)).trans (rfl))))), by rw [pe_kk_p hs.1, if_neg (by omega), if_pos (by omega), pe_q_c (by omega)]; exact x139, pe_rk_p hs.1 (by omega) (by omega)⟩)
                  | (exact ⟨hB, (fun b hb => (f123 b (by simp at hb ⊢; try omega)).trans ((f103 b (by simp at hb ⊢; try omega)).trans ((f83 b (by simp at hb ⊢; try omega)).trans ((f61 b (by simp at hb ⊢; try omega)).trans (rfl))))), (fun j hj => (o123 j (by simp at hj ⊢; try omega)).trans ((o103 j (by simp at hj ⊢; try omega)).trans ((o83 j (by simp at hj ⊢; try omega)).trans ((o61 j (by simp at hj ⊢; try omega)).trans (rfl))))), by rw [pe_kk_p hs.1, if_neg (by omega), if_neg (by omega), hs.2]; exact x148, pe_rk_p hs.1 (by omega) (by omega)⟩)
              · skip
                refine pe_sipush d_M_plain_94 ?_
                refine pe_goto (t := 103) d_M_plain_97 ?_
                refine pe_putiT f_M_190 g_11_17 d_M_plain_103 rfl rfl 17 rfl hB (by first | exact hB _ _ | exact hB0 _ _ | exact hBt _ _ | exact ⟨by omega, by omega⟩) (fun σ103 hB e103 o103 f103 => ?_)
                try have u103_0 : σ103 29 1 = σ83 29 1 := by first | exact o103 1 (by decide) | exact congrFun (f103 29 (by decide)) 1
                try have u103_1 : σ103 29 2 = σ83 29 2 := by first | exact o103 2 (by decide) | exact congrFun (f103 29 (by decide)) 2
                try have u103_2 : σ103 29 3 = σ83 29 3 := by first | exact o103 3 (by decide) | exact congrFun (f103 29 (by decide)) 3
                try have u103_3 : σ103 29 5 = σ83 29 5 := by first | exact o103 5 (by decide) | exact congrFun (f103 29 (by decide)) 5
                try have u103_4 : σ103 29 6 = σ83 29 6 := by first | exact o103 6 (by decide) | exact congrFun (f103 29 (by decide)) 6
                try have u103_5 : σ103 29 7 = σ83 29 7 := by first | exact o103 7 (by decide) | exact congrFun (f103 29 (by decide)) 7
                try have u103_6 : σ103 29 19 = σ83 29 19 := by first | exact o103 19 (by decide) | exact congrFun (f103 29 (by decide)) 19
                try have u103_7 : σ103 29 21 = σ83 29 21 := by first | exact o103 21 (by decide) | exact congrFun (f103 29 (by decide)) 21
                try have u103_8 : σ103 29 13 = σ83 29 13 := by first | exact o103 13 (by decide) | exact congrFun (f103 29 (by decide)) 13
                try have u103_9 : σ103 29 14 = σ83 29 14 := by first | exact o103 14 (by decide) | exact congrFun (f103 29 (by decide)) 14
                try have u103_10 : σ103 29 15 = σ83 29 15 := by first | exact o103 15 (by decide) | exact congrFun (f103 29 (by decide)) 15
                try have u103_11 : σ103 29 16 = σ83 29 16 := by first | exact o103 16 (by decide) | exact congrFun (f103 29 (by decide)) 16
                try have u103_12 : σ103 29 17 = σ83 29 17 := by first | exact o103 17 (by decide) | exact congrFun (f103 29 (by decide)) 17
                try have u103_13 : σ103 29 18 = σ83 29 18 := by first | exact o103 18 (by decide) | exact congrFun (f103 29 (by decide)) 18
                try have u103_14 : σ103 29 20 = σ83 29 20 := by first | exact o103 20 (by decide) | exact congrFun (f103 29 (by decide)) 20
                refine pe_aload_n d_M_plain_106 rfl ?_
                refine pe_iload_n d_M_plain_107 rfl ?_
                refine pe_sipush d_M_plain_108 ?_
                refine pe_icmp_ne (t := 120) d_M_plain_111 (by first | exact hB _ _ | exact hB0 _ _ | exact hBt _ _ | exact ⟨by omega, by omega⟩) (by first | exact hB _ _ | exact hB0 _ _ | exact hBt _ _ | exact ⟨by omega, by omega⟩) (fun h111 => ?_) (fun h111 => ?_)
                · skip
                  refine pe_sipush d_M_plain_120 ?_
                  refine pe_putiT f_M_193 g_11_18 d_M_plain_123 rfl rfl 18 rfl hB (by first | exact hB _ _ | exact hB0 _ _ | exact hBt _ _ | exact ⟨by omega, by omega⟩) (fun σ123 hB e123 o123 f123 => ?_)
                  try have u123_0 : σ123 29 1 = σ103 29 1 := by first | exact o123 1 (by decide) | exact congrFun (f123 29 (by decide)) 1
                  try have u123_1 : σ123 29 2 = σ103 29 2 := by first | exact o123 2 (by decide) | exact congrFun (f123 29 (by decide)) 2
                  try have u123_2 : σ123 29 3 = σ103 29 3 := by first | exact o123 3 (by decide) | exact congrFun (f123 29 (by decide)) 3
                  try have u123_3 : σ123 29 5 = σ103 29 5 := by first | exact o123 5 (by decide) | exact congrFun (f123 29 (by decide)) 5
                  try have u123_4 : σ123 29 6 = σ103 29 6 := by first | exact o123 6 (by decide) | exact congrFun (f123 29 (by decide)) 6
                  try have u123_5 : σ123 29 7 = σ103 29 7 := by first | exact o123 7 (by decide) | exact congrFun (f123 29 (by decide)) 7
                  try have u123_6 : σ123 29 19 = σ103 29 19 := by first | exact o123 19 (by decide) | exact congrFun (f123 29 (by decide)) 19
                  try have u123_7 : σ123 29 21 = σ103 29 21 := by first | exact o123 21 (by decide) | exact congrFun (f123 29 (by decide)) 21
                  try have u123_8 : σ123 29 13 = σ103 29 13 := by first | exact o123 13 (by decide) | exact congrFun (f123 29 (by decide)) 13
                  try have u123_9 : σ123 29 14 = σ103 29 14 := by first | exact o123 14 (by decide) | exact congrFun (f123 29 (by decide)) 14
                  try have u123_10 : σ123 29 15 = σ103 29 15 := by first | exact o123 15 (by decide) | exact congrFun (f123 29 (by decide)) 15
                  try have u123_11 : σ123 29 16 = σ103 29 16 := by first | exact o123 16 (by decide) | exact congrFun (f123 29 (by decide)) 16
                  try have u123_12 : σ123 29 17 = σ103 29 17 := by first | exact o123 17 (by decide) | exact congrFun (f123 29 (by decide)) 17
                  try have u123_13 : σ123 29 18 = σ103 29 18 := by first | exact o123 18 (by decide) | exact congrFun (f123 29 (by decide)) 18
                  try have u123_14 : σ123 29 20 = σ103 29 20 := by first | exact o123 20 (by decide) | exact congrFun (f123 29 (by decide)) 20
                  refine pe_goto (t := 151) d_M_plain_126 ?_
                  refine pe_rv d_M_plain_151 ?_
                  first
                  | (exfalso; omega)
                  | (have hA2 := pe_ra_f hA (fun b hb => (f8 b (by rintro rfl; simp at hb))) (fun j hj => (o8 j (by rintro rfl; simp at hj)))
                     exact ⟨hB, (fun b hb => (f123 b (by simp at hb ⊢; try omega)).trans ((f103 b (by simp at hb ⊢; try omega)).trans ((f83 b (by simp at hb ⊢; try omega)).trans ((f61 b (by simp at hb ⊢; try omega)).trans (rfl))))), (fun j hj => (o123 j (by simp at hj ⊢; try omega)).trans ((o103 j (by simp at hj ⊢; try omega)).trans ((o83 j (by simp at hj ⊢; try omega)).trans ((o61 j (by simp at hj ⊢; try omega)).trans (rfl))))), by rw [pe_kk_p hs.1, if_pos (by omega), pe_q_n1]; exact hA2, pe_rk_e hs.1 (by omega) (by omega)⟩)
                  | (have hA2 := pe_ra_f hA (fun b hb => ((f123 b (by rintro rfl; simp at hb)).trans ((f103 b (by rintro rfl; simp at hb)).trans ((f83 b (by rintro rfl; simp at hb)).trans (f61 b (by rintro rfl; simp at hb)))))) (fun j hj => ((o123 j (by rintro rfl; simp at hj)).trans ((o103 j (by rintro rfl; simp at hj)).trans ((o83 j (by rintro rfl; simp at hj)).trans (o61 j (by rintro rfl; simp at hj))))))
                     exact ⟨hB, (fun b hb => (f123 b (by simp at hb ⊢; try omega)).trans ((f103 b (by simp at hb ⊢; try omega)).trans ((f83 b (by simp at hb ⊢; try omega)).trans ((f61 b (by simp at hb ⊢; try omega)).trans (rfl))))), (fun j hj => (o123 j (by simp at hj ⊢; try omega)).trans ((o103 j (by simp at hj ⊢; try omega)).trans ((o83 j (by simp at hj ⊢; try omega)).trans ((o61 j (by simp at hj ⊢; try omega)).trans (rfl))))), by rw [pe_kk_p hs.1, if_pos (by omega), pe_q_n1]; exact hA2, pe_rk_l hs.1 (by omega) (by omega)⟩)
                  | (exact ⟨hB, (fun b hb => (f123 b (by simp at hb ⊢; try omega)).trans ((f103 b (by simp at hb ⊢; try omega)).trans ((f83 b (by simp at hb ⊢; try omega)).trans ((f61 b (by simp at hb ⊢; try omega)).trans (rfl))))), (fun j hj => (o123 j (by simp at hj ⊢; try omega)).trans ((o103 j (by simp at hj ⊢; try omega)).trans ((o83 j (by simp at hj ⊢; try omega)).trans ((o61 j (by simp at hj ⊢; try omega)).trans (rfl))))), by rw [pe_kk_p hs.1, if_neg (by omega), if_neg (by omega), if_neg (by omega), pe_q_c (by omega)]; exact x28, pe_rk_p hs.1 (by omega) (by omega)⟩)
                  | (exact ⟨hB, (fun b hb => (f123 b (by simp at hb ⊢; try omega)).trans ((f103 b (by simp at hb ⊢; try omega)).trans ((f83 b (by simp at hb ⊢; try omega)).trans ((f61 b (by simp at hb ⊢; try omega)).trans (rfl))))), (fun j hj => (o123 j (by simp at hj ⊢; try omega)).trans ((o103 j (by simp at hj ⊢; try omega)).trans ((o83 j (by simp at hj ⊢; try omega)).trans ((o61 j (by simp at hj ⊢; try omega)).trans (rfl))))), by rw [pe_kk_p hs.1, if_neg (by omega), if_pos (by omega), pe_q_c (by omega)]; exact x139, pe_rk_p hs.1 (by omega) (by omega)⟩)
                  | (exact ⟨hB, (fun b hb => (f123 b (by simp at hb ⊢; try omega)).trans ((f103 b (by simp at hb ⊢; try omega)).trans ((f83 b (by simp at hb ⊢; try omega)).trans ((f61 b (by simp at hb ⊢; try omega)).trans (rfl))))), (fun j hj => (o123 j (by simp at hj ⊢; try omega)).trans ((o103 j (by simp at hj ⊢; try omega)).trans ((o83 j (by simp at hj ⊢; try omega)).trans ((o61 j (by simp at hj ⊢; try omega)).trans (rfl))))), by rw [pe_kk_p hs.1, if_neg (by omega), if_neg (by omega), hs.2]; exact x148, pe_rk_p hs.1 (by omega) (by omega)⟩)
                · skip
                  refine pe_sipush d_M_plain_114 ?_
                  refine pe_goto (t := 123) d_M_plain_117 ?_
                  refine pe_putiT f_M_193 g_11_18 d_M_plain_123 rfl rfl 18 rfl hB (by first | exact hB _ _ | exact hB0 _ _ | exact hBt _ _ | exact ⟨by omega, by omega⟩) (fun σ123 hB e123 o123 f123 => ?_)
                  try have u123_0 : σ123 29 1 = σ103 29 1 := by first | exact o123 1 (by decide) | exact congrFun (f123 29 (by decide)) 1
                  try have u123_1 : σ123 29 2 = σ103 29 2 := by first | exact o123 2 (by decide) | exact congrFun (f123 29 (by decide)) 2
                  try have u123_2 : σ123 29 3 = σ103 29 3 := by first | exact o123 3 (by decide) | exact congrFun (f123 29 (by decide)) 3
                  try have u123_3 : σ123 29 5 = σ103 29 5 := by first | exact o123 5 (by decide) | exact congrFun (f123 29 (by decide)) 5
                  try have u123_4 : σ123 29 6 = σ103 29 6 := by first | exact o123 6 (by decide) | exact congrFun (f123 29 (by decide)) 6
                  try have u123_5 : σ123 29 7 = σ103 29 7 := by first | exact o123 7 (by decide) | exact congrFun (f123 29 (by decide)) 7
                  try have u123_6 : σ123 29 19 = σ103 29 19 := by first | exact o123 19 (by decide) | exact congrFun (f123 29 (by decide)) 19
                  try have u123_7 : σ123 29 21 = σ103 29 21 := by first | exact o123 21 (by decide) | exact congrFun (f123 29 (by decide)) 21
                  try have u123_8 : σ123 29 13 = σ103 29 13 := by first | exact o123 13 (by decide) | exact congrFun (f123 29 (by decide)) 13
                  try have u123_9 : σ123 29 14 = σ103 29 14 := by first | exact o123 14 (by decide) | exact congrFun (f123 29 (by decide)) 14
                  try have u123_10 : σ123 29 15 = σ103 29 15 := by first | exact o123 15 (by decide) | exact congrFun (f123 29 (by decide)) 15
                  try have u123_11 : σ123 29 16 = σ103 29 16 := by first | exact o123 16 (by decide) | exact congrFun (f123 29 (by decide)) 16
                  try have u123_12 : σ123 29 17 = σ103 29 17 := by first | exact o123 17 (by decide) | exact congrFun (f123 29 (by decide)) 17
                  try have u123_13 : σ123 29 18 = σ103 29 18 := by first | exact o123 18 (by decide) | exact congrFun (f123 29 (by decide)) 18
                  try have u123_14 : σ123 29 20 = σ103 29 20 := by first | exact o123 20 (by decide) | exact congrFun (f123 29 (by decide)) 20
                  refine pe_goto (t := 151) d_M_plain_126 ?_
                  refine pe_rv d_M_plain_151 ?_
                  first
                  | (exfalso; omega)
                  | (have hA2 := pe_ra_f hA (fun b hb => (f8 b (by rintro rfl; simp at hb))) (fun j hj => (o8 j (by rintro rfl; simp at hj)))
                     exact ⟨hB, (fun b hb => (f123 b (by simp at hb ⊢; try omega)).trans ((f103 b (by simp at hb ⊢; try omega)).trans ((f83 b (by simp at hb ⊢; try omega)).trans ((f61 b (by simp at hb ⊢; try omega)).trans (rfl))))), (fun j hj => (o123 j (by simp at hj ⊢; try omega)).trans ((o103 j (by simp at hj ⊢; try omega)).trans ((o83 j (by simp at hj ⊢; try omega)).trans ((o61 j (by simp at hj ⊢; try omega)).trans (rfl))))), by rw [pe_kk_p hs.1, if_pos (by omega), pe_q_n1]; exact hA2, pe_rk_e hs.1 (by omega) (by omega)⟩)
                  | (have hA2 := pe_ra_f hA (fun b hb => ((f123 b (by rintro rfl; simp at hb)).trans ((f103 b (by rintro rfl; simp at hb)).trans ((f83 b (by rintro rfl; simp at hb)).trans (f61 b (by rintro rfl; simp at hb)))))) (fun j hj => ((o123 j (by rintro rfl; simp at hj)).trans ((o103 j (by rintro rfl; simp at hj)).trans ((o83 j (by rintro rfl; simp at hj)).trans (o61 j (by rintro rfl; simp at hj))))))
                     exact ⟨hB, (fun b hb => (f123 b (by simp at hb ⊢; try omega)).trans ((f103 b (by simp at hb ⊢; try omega)).trans ((f83 b (by simp at hb ⊢; try omega)).trans ((f61 b (by simp at hb ⊢; try omega)).trans (rfl))))), (fun j hj => (o123 j (by simp at hj ⊢; try omega)).trans ((o103 j (by simp at hj ⊢; try omega)).trans ((o83 j (by simp at hj ⊢; try omega)).trans ((o61 j (by simp at hj ⊢; try omega)).trans (rfl))))), by rw [pe_kk_p hs.1, if_pos (by omega), pe_q_n1]; exact hA2, pe_rk_l hs.1 (by omega) (by omega)⟩)
                  | (exact ⟨hB, (fun b hb => (f123 b (by simp at hb ⊢; try omega)).trans ((f103 b (by simp at hb ⊢; try omega)).trans ((f83 b (by simp at hb ⊢; try omega)).trans ((f61 b (by simp at hb ⊢; try omega)).trans (rfl))))), (fun j hj => (o123 j (by simp at hj ⊢; try omega)).trans ((o103 j (by simp at hj ⊢; try omega)).trans ((o83 j (by simp at hj ⊢; try omega)).trans ((o61 j (by simp at hj ⊢; try omega)).trans (rfl))))), by rw [pe_kk_p hs.1, if_neg (by omega), if_neg (by omega), if_neg (by omega), pe_q_c (by omega)]; exact x28, pe_rk_p hs.1 (by omega) (by omega)⟩)
                  | (exact ⟨hB, (fun b hb => (f123 b (by simp at hb ⊢; try omega)).trans ((f103 b (by simp at hb ⊢; try omega)).trans ((f83 b (by simp at hb ⊢; try omega)).trans ((f61 b (by simp at hb ⊢; try omega)).trans (rfl))))), (fun j hj => (o123 j (by simp at hj ⊢; try omega)).trans ((o103 j (by simp at hj ⊢; try omega)).trans ((o83 j (by simp at hj ⊢; try omega)).trans ((o61 j (by simp at hj ⊢; try omega)).trans (rfl))))), by rw [pe_kk_p hs.1, if_neg (by omega), if_pos (by omega), pe_q_c (by omega)]; exact x139, pe_rk_p hs.1 (by omega) (by omega)⟩)
                  | (exact ⟨hB, (fun b hb => (f123 b (by simp at hb ⊢; try omega)).trans ((f103 b (by simp at hb ⊢; try omega)).trans ((f83 b (by simp at hb ⊢; try omega)).trans ((f61 b (by simp at hb ⊢; try omega)).trans (rfl))))), (fun j hj => (o123 j (by simp at hj ⊢; try omega)).trans ((o103 j (by simp at hj ⊢; try omega)).trans ((o83 j (by simp at hj ⊢; try omega)).trans ((o61 j (by simp at hj ⊢; try omega)).trans (rfl))))), by rw [pe_kk_p hs.1, if_neg (by omega), if_neg (by omega), hs.2]; exact x148, pe_rk_p hs.1 (by omega) (by omega)⟩)
    · skip
      refine pe_iload_n d_M_plain_20 rfl ?_
      refine pe_bipush d_M_plain_21 ?_
      refine pe_icmp_gt (t := 34) d_M_plain_23 (by first | exact hB _ _ | exact hB0 _ _ | exact hBt _ _ | exact ⟨by omega, by omega⟩) (by first | exact hB _ _ | exact hB0 _ _ | exact hBt _ _ | exact ⟨by omega, by omega⟩) (fun h23 => ?_) (fun h23 => ?_)
      · skip
        refine pe_iload_n d_M_plain_34 rfl ?_
        refine pe_sipush d_M_plain_35 ?_
        refine pe_icmp_lt (t := 129) d_M_plain_38 (by first | exact hB _ _ | exact hB0 _ _ | exact hBt _ _ | exact ⟨by omega, by omega⟩) (by first | exact hB _ _ | exact hB0 _ _ | exact hBt _ _ | exact ⟨by omega, by omega⟩) (fun h38 => ?_) (fun h38 => ?_)
        · skip
          refine pe_iload_n d_M_plain_129 rfl ?_
          refine pe_sipush d_M_plain_130 ?_
          refine pe_icmp_lt (t := 145) d_M_plain_133 (by first | exact hB _ _ | exact hB0 _ _ | exact hBt _ _ | exact ⟨by omega, by omega⟩) (by first | exact hB _ _ | exact hB0 _ _ | exact hBt _ _ | exact ⟨by omega, by omega⟩) (fun h133 => ?_) (fun h133 => ?_)
          · skip
            refine pe_aload_n d_M_plain_145 rfl ?_
            refine pe_iload_n d_M_plain_146 rfl ?_
            refine pe_iload_n d_M_plain_147 rfl ?_
            refine pe_v2v d_M_plain_148 c_M_197 i_M_control s_M_control rfl rfl (x_M_control hB hA hw hk hg (by omega) (by first | exact hB _ _ | exact hB0 _ _ | exact hBt _ _ | exact ⟨by omega, by omega⟩)) (fun σ148 hz148 => ?_)
            obtain ⟨hB, f148, o148, x148⟩ := hz148
            try have u148_0 : σ148 29 1 = σ 29 1 := by first | exact o148 1 (by decide) | exact congrFun (f148 29 (by decide)) 1
            try have u148_1 : σ148 29 2 = σ 29 2 := by first | exact o148 2 (by decide) | exact congrFun (f148 29 (by decide)) 2
            try have u148_2 : σ148 29 3 = σ 29 3 := by first | exact o148 3 (by decide) | exact congrFun (f148 29 (by decide)) 3
            try have u148_3 : σ148 29 5 = σ 29 5 := by first | exact o148 5 (by decide) | exact congrFun (f148 29 (by decide)) 5
            try have u148_4 : σ148 29 6 = σ 29 6 := by first | exact o148 6 (by decide) | exact congrFun (f148 29 (by decide)) 6
            try have u148_5 : σ148 29 7 = σ 29 7 := by first | exact o148 7 (by decide) | exact congrFun (f148 29 (by decide)) 7
            try have u148_6 : σ148 29 19 = σ 29 19 := by first | exact o148 19 (by decide) | exact congrFun (f148 29 (by decide)) 19
            try have u148_7 : σ148 29 21 = σ 29 21 := by first | exact o148 21 (by decide) | exact congrFun (f148 29 (by decide)) 21
            try have u148_8 : σ148 29 13 = σ 29 13 := by first | exact o148 13 (by decide) | exact congrFun (f148 29 (by decide)) 13
            try have u148_9 : σ148 29 14 = σ 29 14 := by first | exact o148 14 (by decide) | exact congrFun (f148 29 (by decide)) 14
            try have u148_10 : σ148 29 15 = σ 29 15 := by first | exact o148 15 (by decide) | exact congrFun (f148 29 (by decide)) 15
            try have u148_11 : σ148 29 16 = σ 29 16 := by first | exact o148 16 (by decide) | exact congrFun (f148 29 (by decide)) 16
            try have u148_12 : σ148 29 17 = σ 29 17 := by first | exact o148 17 (by decide) | exact congrFun (f148 29 (by decide)) 17
            try have u148_13 : σ148 29 18 = σ 29 18 := by first | exact o148 18 (by decide) | exact congrFun (f148 29 (by decide)) 18
            try have u148_14 : σ148 29 20 = σ 29 20 := by first | exact o148 20 (by decide) | exact congrFun (f148 29 (by decide)) 20
            skip
            refine pe_rv d_M_plain_151 ?_
            first
            | (exfalso; omega)
            | (have hA2 := pe_ra_f hA (fun b hb => (f8 b (by rintro rfl; simp at hb))) (fun j hj => (o8 j (by rintro rfl; simp at hj)))
               exact ⟨hB, (fun b hb => (f148 b (by simp at hb ⊢; try omega)).trans (rfl)), (fun j hj => (o148 j (by simp at hj ⊢; try omega)).trans (rfl)), by rw [pe_kk_p hs.1, if_pos (by omega), pe_q_n1]; exact hA2, pe_rk_e hs.1 (by omega) (by omega)⟩)
            | (have hA2 := pe_ra_f hA (fun b hb => ((f123 b (by rintro rfl; simp at hb)).trans ((f103 b (by rintro rfl; simp at hb)).trans ((f83 b (by rintro rfl; simp at hb)).trans (f61 b (by rintro rfl; simp at hb)))))) (fun j hj => ((o123 j (by rintro rfl; simp at hj)).trans ((o103 j (by rintro rfl; simp at hj)).trans ((o83 j (by rintro rfl; simp at hj)).trans (o61 j (by rintro rfl; simp at hj))))))
               exact ⟨hB, (fun b hb => (f148 b (by simp at hb ⊢; try omega)).trans (rfl)), (fun j hj => (o148 j (by simp at hj ⊢; try omega)).trans (rfl)), by rw [pe_kk_p hs.1, if_pos (by omega), pe_q_n1]; exact hA2, pe_rk_l hs.1 (by omega) (by omega)⟩)
            | (exact ⟨hB, (fun b hb => (f148 b (by simp at hb ⊢; try omega)).trans (rfl)), (fun j hj => (o148 j (by simp at hj ⊢; try omega)).trans (rfl)), by rw [pe_kk_p hs.1, if_neg (by omega), if_neg (by omega), if_neg (by omega), pe_q_c (by omega)]; exact x28, pe_rk_p hs.1 (by omega) (by omega)⟩)
            | (exact ⟨hB, (fun b hb => (f148 b (by simp at hb ⊢; try omega)).trans (rfl)), (fun j hj => (o148 j (by simp at hj ⊢; try omega)).trans (rfl)), by rw [pe_kk_p hs.1, if_neg (by omega), if_pos (by omega), pe_q_c (by omega)]; exact x139, pe_rk_p hs.1 (by omega) (by omega)⟩)
            | (exact ⟨hB, (fun b hb => (f148 b (by simp at hb ⊢; try omega)).trans (rfl)), (fun j hj => (o148 j (by simp at hj ⊢; try omega)).trans (rfl)), by rw [pe_kk_p hs.1, if_neg (by omega), if_neg (by omega), hs.2]; exact x148, pe_rk_p hs.1 (by omega) (by omega)⟩)
          · skip
            refine pe_aload_n d_M_plain_136 rfl ?_
            refine pe_ldc q_M_196 d_M_plain_137 (z := 65533) rfl ?_
            refine pe_v1v d_M_plain_139 c_M_144 i_M_character s_M_character rfl rfl (x_M_character hB hA hw hk hg (by first | exact hB _ _ | exact hB0 _ _ | exact hBt _ _ | exact ⟨by omega, by omega⟩)) (fun σ139 hz139 => ?_)
            obtain ⟨hB, f139, o139, x139⟩ := hz139
            try have u139_0 : σ139 29 1 = σ 29 1 := by first | exact o139 1 (by decide) | exact congrFun (f139 29 (by decide)) 1
            try have u139_1 : σ139 29 2 = σ 29 2 := by first | exact o139 2 (by decide) | exact congrFun (f139 29 (by decide)) 2
            try have u139_2 : σ139 29 3 = σ 29 3 := by first | exact o139 3 (by decide) | exact congrFun (f139 29 (by decide)) 3
            try have u139_3 : σ139 29 5 = σ 29 5 := by first | exact o139 5 (by decide) | exact congrFun (f139 29 (by decide)) 5
            try have u139_4 : σ139 29 6 = σ 29 6 := by first | exact o139 6 (by decide) | exact congrFun (f139 29 (by decide)) 6
            try have u139_5 : σ139 29 7 = σ 29 7 := by first | exact o139 7 (by decide) | exact congrFun (f139 29 (by decide)) 7
            try have u139_6 : σ139 29 19 = σ 29 19 := by first | exact o139 19 (by decide) | exact congrFun (f139 29 (by decide)) 19
            try have u139_7 : σ139 29 21 = σ 29 21 := by first | exact o139 21 (by decide) | exact congrFun (f139 29 (by decide)) 21
            try have u139_8 : σ139 29 13 = σ 29 13 := by first | exact o139 13 (by decide) | exact congrFun (f139 29 (by decide)) 13
            try have u139_9 : σ139 29 14 = σ 29 14 := by first | exact o139 14 (by decide) | exact congrFun (f139 29 (by decide)) 14
            try have u139_10 : σ139 29 15 = σ 29 15 := by first | exact o139 15 (by decide) | exact congrFun (f139 29 (by decide)) 15
            try have u139_11 : σ139 29 16 = σ 29 16 := by first | exact o139 16 (by decide) | exact congrFun (f139 29 (by decide)) 16
            try have u139_12 : σ139 29 17 = σ 29 17 := by first | exact o139 17 (by decide) | exact congrFun (f139 29 (by decide)) 17
            try have u139_13 : σ139 29 18 = σ 29 18 := by first | exact o139 18 (by decide) | exact congrFun (f139 29 (by decide)) 18
            try have u139_14 : σ139 29 20 = σ 29 20 := by first | exact o139 20 (by decide) | exact congrFun (f139 29 (by decide)) 20
            skip
            refine pe_goto (t := 151) d_M_plain_142 ?_
            refine pe_rv d_M_plain_151 ?_
            first
            | (exfalso; omega)
            | (have hA2 := pe_ra_f hA (fun b hb => (f8 b (by rintro rfl; simp at hb))) (fun j hj => (o8 j (by rintro rfl; simp at hj)))
               exact ⟨hB, (fun b hb => (f139 b (by simp at hb ⊢; try omega)).trans (rfl)), (fun j hj => (o139 j (by simp at hj ⊢; try omega)).trans (rfl)), by rw [pe_kk_p hs.1, if_pos (by omega), pe_q_n1]; exact hA2, pe_rk_e hs.1 (by omega) (by omega)⟩)
            | (have hA2 := pe_ra_f hA (fun b hb => ((f123 b (by rintro rfl; simp at hb)).trans ((f103 b (by rintro rfl; simp at hb)).trans ((f83 b (by rintro rfl; simp at hb)).trans (f61 b (by rintro rfl; simp at hb)))))) (fun j hj => ((o123 j (by rintro rfl; simp at hj)).trans ((o103 j (by rintro rfl; simp at hj)).trans ((o83 j (by rintro rfl; simp at hj)).trans (o61 j (by rintro rfl; simp at hj))))))
               exact ⟨hB, (fun b hb => (f139 b (by simp at hb ⊢; try omega)).trans (rfl)), (fun j hj => (o139 j (by simp at hj ⊢; try omega)).trans (rfl)), by rw [pe_kk_p hs.1, if_pos (by omega), pe_q_n1]; exact hA2, pe_rk_l hs.1 (by omega) (by omega)⟩)
            | (exact ⟨hB, (fun b hb => (f139 b (by simp at hb ⊢; try omega)).trans (rfl)), (fun j hj => (o139 j (by simp at hj ⊢; try omega)).trans (rfl)), by rw [pe_kk_p hs.1, if_neg (by omega), if_neg (by omega), if_neg (by omega), pe_q_c (by omega)]; exact x28, pe_rk_p hs.1 (by omega) (by omega)⟩)
            | (exact ⟨hB, (fun b hb => (f139 b (by simp at hb ⊢; try omega)).trans (rfl)), (fun j hj => (o139 j (by simp at hj ⊢; try omega)).trans (rfl)), by rw [pe_kk_p hs.1, if_neg (by omega), if_pos (by omega), pe_q_c (by omega)]; exact x139, pe_rk_p hs.1 (by omega) (by omega)⟩)
            | (exact ⟨hB, (fun b hb => (f139 b (by simp at hb ⊢; try omega)).trans (rfl)), (fun j hj => (o139 j (by simp at hj ⊢; try omega)).trans (rfl)), by rw [pe_kk_p hs.1, if_neg (by omega), if_neg (by omega), hs.2]; exact x148, pe_rk_p hs.1 (by omega) (by omega)⟩)
        · skip
          refine pe_iload_n d_M_plain_41 rfl ?_
          refine pe_sipush d_M_plain_42 ?_
          refine pe_icmp_gt (t := 129) d_M_plain_45 (by first | exact hB _ _ | exact hB0 _ _ | exact hBt _ _ | exact ⟨by omega, by omega⟩) (by first | exact hB _ _ | exact hB0 _ _ | exact hBt _ _ | exact ⟨by omega, by omega⟩) (fun h45 => ?_) (fun h45 => ?_)
          · skip
            refine pe_iload_n d_M_plain_129 rfl ?_
            refine pe_sipush d_M_plain_130 ?_
            refine pe_icmp_lt (t := 145) d_M_plain_133 (by first | exact hB _ _ | exact hB0 _ _ | exact hBt _ _ | exact ⟨by omega, by omega⟩) (by first | exact hB _ _ | exact hB0 _ _ | exact hBt _ _ | exact ⟨by omega, by omega⟩) (fun h133 => ?_) (fun h133 => ?_)
            · skip
              refine pe_aload_n d_M_plain_145 rfl ?_
              refine pe_iload_n d_M_plain_146 rfl ?_
              refine pe_iload_n d_M_plain_147 rfl ?_
              refine pe_v2v d_M_plain_148 c_M_197 i_M_control s_M_control rfl rfl (x_M_control hB hA hw hk hg (by omega) (by first | exact hB _ _ | exact hB0 _ _ | exact hBt _ _ | exact ⟨by omega, by omega⟩)) (fun σ148 hz148 => ?_)
              obtain ⟨hB, f148, o148, x148⟩ := hz148
              try have u148_0 : σ148 29 1 = σ 29 1 := by first | exact o148 1 (by decide) | exact congrFun (f148 29 (by decide)) 1
              try have u148_1 : σ148 29 2 = σ 29 2 := by first | exact o148 2 (by decide) | exact congrFun (f148 29 (by decide)) 2
              try have u148_2 : σ148 29 3 = σ 29 3 := by first | exact o148 3 (by decide) | exact congrFun (f148 29 (by decide)) 3
              try have u148_3 : σ148 29 5 = σ 29 5 := by first | exact o148 5 (by decide) | exact congrFun (f148 29 (by decide)) 5
              try have u148_4 : σ148 29 6 = σ 29 6 := by first | exact o148 6 (by decide) | exact congrFun (f148 29 (by decide)) 6
              try have u148_5 : σ148 29 7 = σ 29 7 := by first | exact o148 7 (by decide) | exact congrFun (f148 29 (by decide)) 7
              try have u148_6 : σ148 29 19 = σ 29 19 := by first | exact o148 19 (by decide) | exact congrFun (f148 29 (by decide)) 19
              try have u148_7 : σ148 29 21 = σ 29 21 := by first | exact o148 21 (by decide) | exact congrFun (f148 29 (by decide)) 21
              try have u148_8 : σ148 29 13 = σ 29 13 := by first | exact o148 13 (by decide) | exact congrFun (f148 29 (by decide)) 13
              try have u148_9 : σ148 29 14 = σ 29 14 := by first | exact o148 14 (by decide) | exact congrFun (f148 29 (by decide)) 14
              try have u148_10 : σ148 29 15 = σ 29 15 := by first | exact o148 15 (by decide) | exact congrFun (f148 29 (by decide)) 15
              try have u148_11 : σ148 29 16 = σ 29 16 := by first | exact o148 16 (by decide) | exact congrFun (f148 29 (by decide)) 16
              try have u148_12 : σ148 29 17 = σ 29 17 := by first | exact o148 17 (by decide) | exact congrFun (f148 29 (by decide)) 17
              try have u148_13 : σ148 29 18 = σ 29 18 := by first | exact o148 18 (by decide) | exact congrFun (f148 29 (by decide)) 18
              try have u148_14 : σ148 29 20 = σ 29 20 := by first | exact o148 20 (by decide) | exact congrFun (f148 29 (by decide)) 20
              skip
              refine pe_rv d_M_plain_151 ?_
              first
              | (exfalso; omega)
              | (have hA2 := pe_ra_f hA (fun b hb => (f8 b (by rintro rfl; simp at hb))) (fun j hj => (o8 j (by rintro rfl; simp at hj)))
                 exact ⟨hB, (fun b hb => (f148 b (by simp at hb ⊢; try omega)).trans (rfl)), (fun j hj => (o148 j (by simp at hj ⊢; try omega)).trans (rfl)), by rw [pe_kk_p hs.1, if_pos (by omega), pe_q_n1]; exact hA2, pe_rk_e hs.1 (by omega) (by omega)⟩)
              | (have hA2 := pe_ra_f hA (fun b hb => ((f123 b (by rintro rfl; simp at hb)).trans ((f103 b (by rintro rfl; simp at hb)).trans ((f83 b (by rintro rfl; simp at hb)).trans (f61 b (by rintro rfl; simp at hb)))))) (fun j hj => ((o123 j (by rintro rfl; simp at hj)).trans ((o103 j (by rintro rfl; simp at hj)).trans ((o83 j (by rintro rfl; simp at hj)).trans (o61 j (by rintro rfl; simp at hj))))))
                 exact ⟨hB, (fun b hb => (f148 b (by simp at hb ⊢; try omega)).trans (rfl)), (fun j hj => (o148 j (by simp at hj ⊢; try omega)).trans (rfl)), by rw [pe_kk_p hs.1, if_pos (by omega), pe_q_n1]; exact hA2, pe_rk_l hs.1 (by omega) (by omega)⟩)
              | (exact ⟨hB, (fun b hb => (f148 b (by simp at hb ⊢; try omega)).trans (rfl)), (fun j hj => (o148 j (by simp at hj ⊢; try omega)).trans (rfl)), by rw [pe_kk_p hs.1, if_neg (by omega), if_neg (by omega), if_neg (by omega), pe_q_c (by omega)]; exact x28, pe_rk_p hs.1 (by omega) (by omega)⟩)
              | (exact ⟨hB, (fun b hb => (f148 b (by simp at hb ⊢; try omega)).trans (rfl)), (fun j hj => (o148 j (by simp at hj ⊢; try omega)).trans (rfl)), by rw [pe_kk_p hs.1, if_neg (by omega), if_pos (by omega), pe_q_c (by omega)]; exact x139, pe_rk_p hs.1 (by omega) (by omega)⟩)
              | (exact ⟨hB, (fun b hb => (f148 b (by simp at hb ⊢; try omega)).trans (rfl)), (fun j hj => (o148 j (by simp at hj ⊢; try omega)).trans (rfl)), by rw [pe_kk_p hs.1, if_neg (by omega), if_neg (by omega), hs.2]; exact x148, pe_rk_p hs.1 (by omega) (by omega)⟩)
            · skip
              refine pe_aload_n d_M_plain_136 rfl ?_
              refine pe_ldc q_M_196 d_M_plain_137 (z := 65533) rfl ?_
              refine pe_v1v d_M_plain_139 c_M_144 i_M_character s_M_character rfl rfl (x_M_character hB hA hw hk hg (by first | exact hB _ _ | exact hB0 _ _ | exact hBt _ _ | exact ⟨by omega, by omega⟩)) (fun σ139 hz139 => ?_)
              obtain ⟨hB, f139, o139, x139⟩ := hz139
              try have u139_0 : σ139 29 1 = σ 29 1 := by first | exact o139 1 (by decide) | exact congrFun (f139 29 (by decide)) 1
              try have u139_1 : σ139 29 2 = σ 29 2 := by first | exact o139 2 (by decide) | exact congrFun (f139 29 (by decide)) 2
              try have u139_2 : σ139 29 3 = σ 29 3 := by first | exact o139 3 (by decide) | exact congrFun (f139 29 (by decide)) 3
              try have u139_3 : σ139 29 5 = σ 29 5 := by first | exact o139 5 (by decide) | exact congrFun (f139 29 (by decide)) 5
              try have u139_4 : σ139 29 6 = σ 29 6 := by first | exact o139 6 (by decide) | exact congrFun (f139 29 (by decide)) 6
              try have u139_5 : σ139 29 7 = σ 29 7 := by first | exact o139 7 (by decide) | exact congrFun (f139 29 (by decide)) 7
              try have u139_6 : σ139 29 19 = σ 29 19 := by first | exact o139 19 (by decide) | exact congrFun (f139 29 (by decide)) 19
              try have u139_7 : σ139 29 21 = σ 29 21 := by first | exact o139 21 (by decide) | exact congrFun (f139 29 (by decide)) 21
              try have u139_8 : σ139 29 13 = σ 29 13 := by first | exact o139 13 (by decide) | exact congrFun (f139 29 (by decide)) 13
              try have u139_9 : σ139 29 14 = σ 29 14 := by first | exact o139 14 (by decide) | exact congrFun (f139 29 (by decide)) 14
              try have u139_10 : σ139 29 15 = σ 29 15 := by first | exact o139 15 (by decide) | exact congrFun (f139 29 (by decide)) 15
              try have u139_11 : σ139 29 16 = σ 29 16 := by first | exact o139 16 (by decide) | exact congrFun (f139 29 (by decide)) 16
              try have u139_12 : σ139 29 17 = σ 29 17 := by first | exact o139 17 (by decide) | exact congrFun (f139 29 (by decide)) 17
              try have u139_13 : σ139 29 18 = σ 29 18 := by first | exact o139 18 (by decide) | exact congrFun (f139 29 (by decide)) 18
              try have u139_14 : σ139 29 20 = σ 29 20 := by first | exact o139 20 (by decide) | exact congrFun (f139 29 (by decide)) 20
              skip
              refine pe_goto (t := 151) d_M_plain_142 ?_
              refine pe_rv d_M_plain_151 ?_
              first
              | (exfalso; omega)
              | (have hA2 := pe_ra_f hA (fun b hb => (f8 b (by rintro rfl; simp at hb))) (fun j hj => (o8 j (by rintro rfl; simp at hj)))
                 exact ⟨hB, (fun b hb => (f139 b (by simp at hb ⊢; try omega)).trans (rfl)), (fun j hj => (o139 j (by simp at hj ⊢; try omega)).trans (rfl)), by rw [pe_kk_p hs.1, if_pos (by omega), pe_q_n1]; exact hA2, pe_rk_e hs.1 (by omega) (by omega)⟩)
              | (have hA2 := pe_ra_f hA (fun b hb => ((f123 b (by rintro rfl; simp at hb)).trans ((f103 b (by rintro rfl; simp at hb)).trans ((f83 b (by rintro rfl; simp at hb)).trans (f61 b (by rintro rfl; simp at hb)))))) (fun j hj => ((o123 j (by rintro rfl; simp at hj)).trans ((o103 j (by rintro rfl; simp at hj)).trans ((o83 j (by rintro rfl; simp at hj)).trans (o61 j (by rintro rfl; simp at hj))))))
                 exact ⟨hB, (fun b hb => (f139 b (by simp at hb ⊢; try omega)).trans (rfl)), (fun j hj => (o139 j (by simp at hj ⊢; try omega)).trans (rfl)), by rw [pe_kk_p hs.1, if_pos (by omega), pe_q_n1]; exact hA2, pe_rk_l hs.1 (by omega) (by omega)⟩)
              | (exact ⟨hB, (fun b hb => (f139 b (by simp at hb ⊢; try omega)).trans (rfl)), (fun j hj => (o139 j (by simp at hj ⊢; try omega)).trans (rfl)), by rw [pe_kk_p hs.1, if_neg (by omega), if_neg (by omega), if_neg (by omega), pe_q_c (by omega)]; exact x28, pe_rk_p hs.1 (by omega) (by omega)⟩)
              | (exact ⟨hB, (fun b hb => (f139 b (by simp at hb ⊢; try omega)).trans (rfl)), (fun j hj => (o139 j (by simp at hj ⊢; try omega)).trans (rfl)), by rw [pe_kk_p hs.1, if_neg (by omega), if_pos (by omega), pe_q_c (by omega)]; exact x139, pe_rk_p hs.1 (by omega) (by omega)⟩)
              | (exact ⟨hB, (fun b hb => (f139 b (by simp at hb ⊢; try omega)).trans (rfl)), (fun j hj => (o139 j (by simp at hj ⊢; try omega)).trans (rfl)), by rw [pe_kk_p hs.1, if_neg (by omega), if_neg (by omega), hs.2]; exact x148, pe_rk_p hs.1 (by omega) (by omega)⟩)
          · skip
            refine pe_aload_n d_M_plain_48 rfl ?_
            refine pe_iload_n d_M_plain_49 rfl ?_
            refine pe_sipush d_M_plain_50 ?_
            refine pe_icmp_ge (t := 60) d_M_plain_53 (by first | exact hB _ _ | exact hB0 _ _ | exact hBt _ _ | exact ⟨by omega, by omega⟩) (by first | exact hB _ _ | exact hB0 _ _ | exact hBt _ _ | exact ⟨by omega, by omega⟩) (fun h53 => ?_) (fun h53 => ?_)
            · skip
              refine pe_iconst d_M_plain_60 ?_
              refine pe_putiT f_M_184 g_11_15 d_M_plain_61 rfl rfl 15 rfl hB (by first | exact hB _ _ | exact hB0 _ _ | exact hBt _ _ | exact ⟨by omega, by omega⟩) (fun σ61 hB e61 o61 f61 => ?_)
              try have u61_0 : σ61 29 1 = σ 29 1 := by first | exact o61 1 (by decide) | exact congrFun (f61 29 (by decide)) 1
              try have u61_1 : σ61 29 2 = σ 29 2 := by first | exact o61 2 (by decide) | exact congrFun (f61 29 (by decide)) 2
              try have u61_2 : σ61 29 3 = σ 29 3 := by first | exact o61 3 (by decide) | exact congrFun (f61 29 (by decide)) 3
              try have u61_3 : σ61 29 5 = σ 29 5 := by first | exact o61 5 (by decide) | exact congrFun (f61 29 (by decide)) 5
              try have u61_4 : σ61 29 6 = σ 29 6 := by first | exact o61 6 (by decide) | exact congrFun (f61 29 (by decide)) 6
              try have u61_5 : σ61 29 7 = σ 29 7 := by first | exact o61 7 (by decide) | exact congrFun (f61 29 (by decide)) 7
              try have u61_6 : σ61 29 19 = σ 29 19 := by first | exact o61 19 (by decide) | exact congrFun (f61 29 (by decide)) 19
              try have u61_7 : σ61 29 21 = σ 29 21 := by first | exact o61 21 (by decide) | exact congrFun (f61 29 (by decide)) 21
              try have u61_8 : σ61 29 13 = σ 29 13 := by first | exact o61 13 (by decide) | exact congrFun (f61 29 (by decide)) 13
              try have u61_9 : σ61 29 14 = σ 29 14 := by first | exact o61 14 (by decide) | exact congrFun (f61 29 (by decide)) 14
              try have u61_10 : σ61 29 15 = σ 29 15 := by first | exact o61 15 (by decide) | exact congrFun (f61 29 (by decide)) 15
              try have u61_11 : σ61 29 16 = σ 29 16 := by first | exact o61 16 (by decide) | exact congrFun (f61 29 (by decide)) 16
              try have u61_12 : σ61 29 17 = σ 29 17 := by first | exact o61 17 (by decide) | exact congrFun (f61 29 (by decide)) 17
              try have u61_13 : σ61 29 18 = σ 29 18 := by first | exact o61 18 (by decide) | exact congrFun (f61 29 (by decide)) 18
              try have u61_14 : σ61 29 20 = σ 29 20 := by first | exact o61 20 (by decide) | exact congrFun (f61 29 (by decide)) 20
              refine pe_aload_n d_M_plain_64 rfl ?_
              refine pe_iload_n d_M_plain_65 rfl ?_
              refine pe_sipush d_M_plain_66 ?_
              refine pe_icmp_ge (t := 79) d_M_plain_69 (by first | exact hB _ _ | exact hB0 _ _ | exact hBt _ _ | exact ⟨by omega, by omega⟩) (by first | exact hB _ _ | exact hB0 _ _ | exact hBt _ _ | exact ⟨by omega, by omega⟩) (fun h69 => ?_) (fun h69 => ?_)
              · skip
                refine pe_iload_n d_M_plain_79 rfl ?_
                refine pe_bipush d_M_plain_80 ?_
                refine pe_iand d_M_plain_82 (pe_and 4 16 (by omega) (by omega)) ?_
                refine pe_putiT f_M_187 g_11_16 d_M_plain_83 rfl rfl 16 rfl hB (by first | exact hB _ _ | exact hB0 _ _ | exact hBt _ _ | exact ⟨by omega, by omega⟩) (fun σ83 hB e83 o83 f83 => ?_)
                try have u83_0 : σ83 29 1 = σ61 29 1 := by first | exact o83 1 (by decide) | exact congrFun (f83 29 (by decide)) 1
                try have u83_1 : σ83 29 2 = σ61 29 2 := by first | exact o83 2 (by decide) | exact congrFun (f83 29 (by decide)) 2
                try have u83_2 : σ83 29 3 = σ61 29 3 := by first | exact o83 3 (by decide) | exact congrFun (f83 29 (by decide)) 3
                try have u83_3 : σ83 29 5 = σ61 29 5 := by first | exact o83 5 (by decide) | exact congrFun (f83 29 (by decide)) 5
                try have u83_4 : σ83 29 6 = σ61 29 6 := by first | exact o83 6 (by decide) | exact congrFun (f83 29 (by decide)) 6
                try have u83_5 : σ83 29 7 = σ61 29 7 := by first | exact o83 7 (by decide) | exact congrFun (f83 29 (by decide)) 7
                try have u83_6 : σ83 29 19 = σ61 29 19 := by first | exact o83 19 (by decide) | exact congrFun (f83 29 (by decide)) 19
                try have u83_7 : σ83 29 21 = σ61 29 21 := by first | exact o83 21 (by decide) | exact congrFun (f83 29 (by decide)) 21
                try have u83_8 : σ83 29 13 = σ61 29 13 := by first | exact o83 13 (by decide) | exact congrFun (f83 29 (by decide)) 13
                try have u83_9 : σ83 29 14 = σ61 29 14 := by first | exact o83 14 (by decide) | exact congrFun (f83 29 (by decide)) 14
                try have u83_10 : σ83 29 15 = σ61 29 15 := by first | exact o83 15 (by decide) | exact congrFun (f83 29 (by decide)) 15
                try have u83_11 : σ83 29 16 = σ61 29 16 := by first | exact o83 16 (by decide) | exact congrFun (f83 29 (by decide)) 16
                try have u83_12 : σ83 29 17 = σ61 29 17 := by first | exact o83 17 (by decide) | exact congrFun (f83 29 (by decide)) 17
                try have u83_13 : σ83 29 18 = σ61 29 18 := by first | exact o83 18 (by decide) | exact congrFun (f83 29 (by decide)) 18
                try have u83_14 : σ83 29 20 = σ61 29 20 := by first | exact o83 20 (by decide) | exact congrFun (f83 29 (by decide)) 20
                refine pe_aload_n d_M_plain_86 rfl ?_
                refine pe_iload_n d_M_plain_87 rfl ?_
                refine pe_sipush d_M_plain_88 ?_
                refine pe_icmp_ne (t := 100) d_M_plain_91 (by first | exact hB _ _ | exact hB0 _ _ | exact hBt _ _ | exact ⟨by omega, by omega⟩) (by first | exact hB _ _ | exact hB0 _ _ | exact hBt _ _ | exact ⟨by omega, by omega⟩) (fun h91 => ?_) (fun h91 => ?_)
                · skip
                  refine pe_sipush d_M_plain_100 ?_
                  refine pe_putiT f_M_190 g_11_17 d_M_plain_103 rfl rfl 17 rfl hB (by first | exact hB _ _ | exact hB0 _ _ | exact hBt _ _ | exact ⟨by omega, by omega⟩) (fun σ103 hB e103 o103 f103 => ?_)
                  try have u103_0 : σ103 29 1 = σ83 29 1 := by first | exact o103 1 (by decide) | exact congrFun (f103 29 (by decide)) 1
                  try have u103_1 : σ103 29 2 = σ83 29 2 := by first | exact o103 2 (by decide) | exact congrFun (f103 29 (by decide)) 2
                  try have u103_2 : σ103 29 3 = σ83 29 3 := by first | exact o103 3 (by decide) | exact congrFun (f103 29 (by decide)) 3
                  try have u103_3 : σ103 29 5 = σ83 29 5 := by first | exact o103 5 (by decide) | exact congrFun (f103 29 (by decide)) 5
                  try have u103_4 : σ103 29 6 = σ83 29 6 := by first | exact o103 6 (by decide) | exact congrFun (f103 29 (by decide)) 6
                  try have u103_5 : σ103 29 7 = σ83 29 7 := by first | exact o103 7 (by decide) | exact congrFun (f103 29 (by decide)) 7
                  try have u103_6 : σ103 29 19 = σ83 29 19 := by first | exact o103 19 (by decide) | exact congrFun (f103 29 (by decide)) 19
                  try have u103_7 : σ103 29 21 = σ83 29 21 := by first | exact o103 21 (by decide) | exact congrFun (f103 29 (by decide)) 21
                  try have u103_8 : σ103 29 13 = σ83 29 13 := by first | exact o103 13 (by decide) | exact congrFun (f103 29 (by decide)) 13
                  try have u103_9 : σ103 29 14 = σ83 29 14 := by first | exact o103 14 (by decide) | exact congrFun (f103 29 (by decide)) 14
                  try have u103_10 : σ103 29 15 = σ83 29 15 := by first | exact o103 15 (by decide) | exact congrFun (f103 29 (by decide)) 15
                  try have u103_11 : σ103 29 16 = σ83 29 16 := by first | exact o103 16 (by decide) | exact congrFun (f103 29 (by decide)) 16
                  try have u103_12 : σ103 29 17 = σ83 29 17 := by first | exact o103 17 (by decide) | exact congrFun (f103 29 (by decide)) 17
                  try have u103_13 : σ103 29 18 = σ83 29 18 := by first | exact o103 18 (by decide) | exact congrFun (f103 29 (by decide)) 18
                  try have u103_14 : σ103 29 20 = σ83 29 20 := by first | exact o103 20 (by decide) | exact congrFun (f103 29 (by decide)) 20
                  refine pe_aload_n d_M_plain_106 rfl ?_
                  refine pe_iload_n d_M_plain_107 rfl ?_
                  refine pe_sipush d_M_plain_108 ?_
                  refine pe_icmp_ne (t := 120) d_M_plain_111 (by first | exact hB _ _ | exact hB0 _ _ | exact hBt _ _ | exact ⟨by omega, by omega⟩) (by first | exact hB _ _ | exact hB0 _ _ | exact hBt _ _ | exact ⟨by omega, by omega⟩) (fun h111 => ?_) (fun h111 => ?_)
                  · skip
                    refine pe_sipush d_M_plain_120 ?_
                    refine pe_putiT f_M_193 g_11_18 d_M_plain_123 rfl rfl 18 rfl hB (by first | exact hB _ _ | exact hB0 _ _ | exact hBt _ _ | exact ⟨by omega, by omega⟩) (fun σ123 hB e123 o123 f123 => ?_)
                    try have u123_0 : σ123 29 1 = σ103 29 1 := by first | exact o123 1 (by decide) | exact congrFun (f123 29 (by decide)) 1
                    try have u123_1 : σ123 29 2 = σ103 29 2 := by first | exact o123 2 (by decide) | exact congrFun (f123 29 (by decide)) 2
                    try have u123_2 : σ123 29 3 = σ103 29 3 := by first | exact o123 3 (by decide) | exact congrFun (f123 29 (by decide)) 3
                    try have u123_3 : σ123 29 5 = σ103 29 5 := by first | exact o123 5 (by decide) | exact congrFun (f123 29 (by decide)) 5
                    try have u123_4 : σ123 29 6 = σ103 29 6 := by first | exact o123 6 (by decide) | exact congrFun (f123 29 (by decide)) 6
                    try have u123_5 : σ123 29 7 = σ103 29 7 := by first | exact o123 7 (by decide) | exact congrFun (f123 29 (by decide)) 7
                    try have u123_6 : σ123 29 19 = σ103 29 19 := by first | exact o123 19 (by decide) | exact congrFun (f123 29 (by decide)) 19
                    try have u123_7 : σ123 29 21 = σ103 29 21 := by first | exact o123 21 (by decide) | exact congrFun (f123 29 (by decide)) 21
                    try have u123_8 : σ123 29 13 = σ103 29 13 := by first | exact o123 13 (by decide) | exact congrFun (f123 29 (by decide)) 13
                    try have u123_9 : σ123 29 14 = σ103 29 14 := by first | exact o123 14 (by decide) | exact congrFun (f123 29 (by decide)) 14
                    try have u123_10 : σ123 29 15 = σ103 29 15 := by first | exact o123 15 (by decide) | exact congrFun (f123 29 (by decide)) 15
                    try have u123_11 : σ123 29 16 = σ103 29 16 := by first | exact o123 16 (by decide) | exact congrFun (f123 29 (by decide)) 16
                    try have u123_12 : σ123 29 17 = σ103 29 17 := by first | exact o123 17 (by decide) | exact congrFun (f123 29 (by decide)) 17
                    try have u123_13 : σ123 29 18 = σ103 29 18 := by first | exact o123 18 (by decide) | exact congrFun (f123 29 (by decide)) 18
                    try have u123_14 : σ123 29 20 = σ103 29 20 := by first | exact o123 20 (by decide) | exact congrFun (f123 29 (by decide)) 20
                    refine pe_goto (t := 151) d_M_plain_126 ?_
                    refine pe_rv d_M_plain_151 ?_
                    first
                    | (exfalso; omega)
                    | (have hA2 := pe_ra_f hA (fun b hb => (f8 b (by rintro rfl; simp at hb))) (fun j hj => (o8 j (by rintro rfl; simp at hj)))
                       exact ⟨hB, (fun b hb => (f123 b (by simp at hb ⊢; try omega)).trans ((f103 b (by simp at hb ⊢; try omega)).trans ((f83 b (by simp at hb ⊢; try omega)).trans ((f61 b (by simp at hb ⊢; try omega)).trans (rfl))))), (fun j hj => (o123 j (by simp at hj ⊢; try omega)).trans ((o103 j (by simp at hj ⊢; try omega)).trans ((o83 j (by simp at hj ⊢; try omega)).trans ((o61 j (by simp at hj ⊢; try omega)).trans (rfl))))), by rw [pe_kk_p hs.1, if_pos (by omega), pe_q_n1]; exact hA2, pe_rk_e hs.1 (by omega) (by omega)⟩)
                    | (have hA2 := pe_ra_f hA (fun b hb => ((f123 b (by rintro rfl; simp at hb)).trans ((f103 b (by rintro rfl; simp at hb)).trans ((f83 b (by rintro rfl; simp at hb)).trans (f61 b (by rintro rfl; simp at hb)))))) (fun j hj => ((o123 j (by rintro rfl; simp at hj)).trans ((o103 j (by rintro rfl; simp at hj)).trans ((o83 j (by rintro rfl; simp at hj)).trans (o61 j (by rintro rfl; simp at hj))))))
                       exact ⟨hB, (fun b hb => (f123 b (by simp at hb ⊢; try omega)).trans ((f103 b (by simp at hb ⊢; try omega)).trans ((f83 b (by simp at hb ⊢; try omega)).trans ((f61 b (by simp at hb ⊢; try omega)).trans (rfl))))), (fun j hj => (o123 j (by simp at hj ⊢; try omega)).trans ((o103 j (by simp at hj ⊢; try omega)).trans ((o83 j (by simp at hj ⊢; try omega)).trans ((o61 j (by simp at hj ⊢; try omega)).trans (rfl))))), by rw [pe_kk_p hs.1, if_pos (by omega), pe_q_n1]; exact hA2, pe_rk_l hs.1 (by omega) (by omega)⟩)
                    | (exact ⟨hB, (fun b hb => (f123 b (by simp at hb ⊢; try omega)).trans ((f103 b (by simp at hb ⊢; try omega)).trans ((f83 b (by simp at hb ⊢; try omega)).trans ((f61 b (by simp at hb ⊢; try omega)).trans (rfl))))), (fun j hj => (o123 j (by simp at hj ⊢; try omega)).trans ((o103 j (by simp at hj ⊢; try omega)).trans ((o83 j (by simp at hj ⊢; try omega)).trans ((o61 j (by simp at hj ⊢; try omega)).trans (rfl))))), by rw [pe_kk_p hs.1, if_neg (by omega), if_neg (by omega), if_neg (by omega), pe_q_c (by omega)]; exact x28, pe_rk_p hs.1 (by omega) (by omega)⟩)
                    | (exact ⟨hB, (fun b hb => (f123 b (by simp at hb ⊢; try omega)).trans ((f103 b (by simp at hb ⊢; try omega)).trans ((f83 b (by simp at hb ⊢; try omega)).trans ((f61 b (by simp at hb ⊢; try omega)).trans (rfl))))), (fun j hj => (o123 j (by simp at hj ⊢; try omega)).trans ((o103 j (by simp at hj ⊢; try omega)).trans ((o83 j (by simp at hj ⊢; try omega)).trans ((o61 j (by simp at hj ⊢; try omega)).trans (rfl))))), by rw [pe_kk_p hs.1, if_neg (by omega), if_pos (by omega), pe_q_c (by omega)]; exact x139, pe_rk_p hs.1 (by omega) (by omega)⟩)
                    | (exact ⟨hB, (fun b hb => (f123 b (by simp at hb ⊢; try omega)).trans ((f103 b (by simp at hb ⊢; try omega)).trans ((f83 b (by simp at hb ⊢; try omega)).trans ((f61 b (by simp at hb ⊢; try omega)).trans (rfl))))), (fun j hj => (o123 j (by simp at hj ⊢; try omega)).trans ((o103 j (by simp at hj ⊢; try omega)).trans ((o83 j (by simp at hj ⊢; try omega)).trans ((o61 j (by simp at hj ⊢; try omega)).trans (rfl))))), by rw [pe_kk_p hs.1, if_neg (by omega), if_neg (by omega), hs.2]; exact x148, pe_rk_p hs.1 (by omega) (by omega)⟩)
                  · skip
                    refine pe_sipush d_M_plain_114 ?_
                    refine pe_goto (t := 123) d_M_plain_117 ?_
                    refine pe_putiT f_M_193 g_11_18 d_M_plain_123 rfl rfl 18 rfl hB (by first | exact hB _ _ | exact hB0 _ _ | exact hBt _ _ | exact ⟨by omega, by omega⟩) (fun σ123 hB e123 o123 f123 => ?_)
                    try have u123_0 : σ123 29 1 = σ103 29 1 := by first | exact o123 1 (by decide) | exact congrFun (f123 29 (by decide)) 1
                    try have u123_1 : σ123 29 2 = σ103 29 2 := by first | exact o123 2 (by decide) | exact congrFun (f123 29 (by decide)) 2
                    try have u123_2 : σ123 29 3 = σ103 29 3 := by first | exact o123 3 (by decide) | exact congrFun (f123 29 (by decide)) 3
                    try have u123_3 : σ123 29 5 = σ103 29 5 := by first | exact o123 5 (by decide) | exact congrFun (f123 29 (by decide)) 5
                    try have u123_4 : σ123 29 6 = σ103 29 6 := by first | exact o123 6 (by decide) | exact congrFun (f123 29 (by decide)) 6
                    try have u123_5 : σ123 29 7 = σ103 29 7 := by first | exact o123 7 (by decide) | exact congrFun (f123 29 (by decide)) 7
                    try have u123_6 : σ123 29 19 = σ103 29 19 := by first | exact o123 19 (by decide) | exact congrFun (f123 29 (by decide)) 19
                    try have u123_7 : σ123 29 21 = σ103 29 21 := by first | exact o123 21 (by decide) | exact congrFun (f123 29 (by decide)) 21
                    try have u123_8 : σ123 29 13 = σ103 29 13 := by first | exact o123 13 (by decide) | exact congrFun (f123 29 (by decide)) 13
                    try have u123_9 : σ123 29 14 = σ103 29 14 := by first | exact o123 14 (by decide) | exact congrFun (f123 29 (by decide)) 14
                    try have u123_10 : σ123 29 15 = σ103 29 15 := by first | exact o123 15 (by decide) | exact congrFun (f123 29 (by decide)) 15
                    try have u123_11 : σ123 29 16 = σ103 29 16 := by first | exact o123 16 (by decide) | exact congrFun (f123 29 (by decide)) 16
                    try have u123_12 : σ123 29 17 = σ103 29 17 := by first | exact o123 17 (by decide) | exact congrFun (f123 29 (by decide)) 17
                    try have u123_13 : σ123 29 18 = σ103 29 18 := by first | exact o123 18 (by decide) | exact congrFun (f123 29 (by decide)) 18
                    try have u123_14 : σ123 29 20 = σ103 29 20 := by first | exact o123 20 (by decide) | exact congrFun (f123 29 (by decide)) 20
                    refine pe_goto (t := 151) d_M_plain_126 ?_
                    refine pe_rv d_M_plain_151 ?_
                    first
                    | (exfalso; omega)
                    | (have hA2 := pe_ra_f hA (fun b hb => (f8 b (by rintro rfl; simp at hb))) (fun j hj => (o8 j (by rintro rfl; simp at hj)))
                       exact ⟨hB, (fun b hb => (f123 b (by simp at hb ⊢; try omega)).trans ((f103 b (by simp at hb ⊢; try omega)).trans ((f83 b (by simp at hb ⊢; try omega)).trans ((f61 b (by simp at hb ⊢; try omega)).trans (rfl))))), (fun j hj => (o123 j (by simp at hj ⊢; try omega)).trans ((o103 j (by simp at hj ⊢; try omega)).trans ((o83 j (by simp at hj ⊢; try omega)).trans ((o61 j (by simp at hj ⊢; try omega)).trans (rfl))))), by rw [pe_kk_p hs.1, if_pos (by omega), pe_q_n1]; exact hA2, pe_rk_e hs.1 (by omega) (by omega)⟩)
                    | (have hA2 := pe_ra_f hA (fun b hb => ((f123 b (by rintro rfl; simp at hb)).trans ((f103 b (by rintro rfl; simp at hb)).trans ((f83 b (by rintro rfl; simp at hb)).trans (f61 b (by rintro rfl; simp at hb)))))) (fun j hj => ((o123 j (by rintro rfl; simp at hj)).trans ((o103 j (by rintro rfl; simp at hj)).trans ((o83 j (by rintro rfl; simp at hj)).trans (o61 j (by rintro rfl; simp at hj))))))
                       exact ⟨hB, (fun b hb => (f123 b (by simp at hb ⊢; try omega)).trans ((f103 b (by simp at hb ⊢; try omega)).trans ((f83 b (by simp at hb ⊢; try omega)).trans ((f61 b (by simp at hb ⊢; try omega)).trans (rfl))))), (fun j hj => (o123 j (by simp at hj ⊢; try omega)).trans ((o103 j (by simp at hj ⊢; try omega)).trans ((o83 j (by simp at hj ⊢; try omega)).trans ((o61 j (by simp at hj ⊢; try omega)).trans (rfl))))), by rw [pe_kk_p hs.1, if_pos (by omega), pe_q_n1]; exact hA2, pe_rk_l hs.1 (by omega) (by omega)⟩)
                    | (exact ⟨hB, (fun b hb => (f123 b (by simp at hb ⊢; try omega)).trans ((f103 b (by simp at hb ⊢; try omega)).trans ((f83 b (by simp at hb ⊢; try omega)).trans ((f61 b (by simp at hb ⊢; try omega)).trans (rfl))))), (fun j hj => (o123 j (by simp at hj ⊢; try omega)).trans ((o103 j (by simp at hj ⊢; try omega)).trans ((o83 j (by simp at hj ⊢; try omega)).trans ((o61 j (by simp at hj ⊢; try omega)).trans (rfl))))), by rw [pe_kk_p hs.1, if_neg (by omega), if_neg (by omega), if_neg (by omega), pe_q_c (by omega)]; exact x28, pe_rk_p hs.1 (by omega) (by omega)⟩)
                    | (exact ⟨hB, (fun b hb => (f123 b (by simp at hb ⊢; try omega)).trans ((f103 b (by simp at hb ⊢; try omega)).trans ((f83 b (by simp at hb ⊢; try omega)).trans ((f61 b (by simp at hb ⊢; try omega)).trans (rfl))))), (fun j hj => (o123 j (by simp at hj ⊢; try omega)).trans ((o103 j (by simp at hj ⊢; try omega)).trans ((o83 j (by simp at hj ⊢; try omega)).trans ((o61 j (by simp at hj ⊢; try omega)).trans (rfl))))), by rw [pe_kk_p hs.1, if_neg (by omega), if_pos (by omega), pe_q_c (by omega)]; exact x139, pe_rk_p hs.1 (by omega) (by omega)⟩)
                    | (exact ⟨hB, (fun b hb => (f123 b (by simp at hb ⊢; try omega)).trans ((f103 b (by simp at hb ⊢; try omega)).trans ((f83 b (by simp at hb ⊢; try omega)).trans ((f61 b (by simp at hb ⊢; try omega)).trans (rfl))))), (fun j hj => (o123 j (by simp at hj ⊢; try omega)).trans ((o103 j (by simp at hj ⊢; try omega)).trans ((o83 j (by simp at hj ⊢; try omega)).trans ((o61 j (by simp at hj ⊢; try omega)).trans (rfl))))), by rw [pe_kk_p hs.1, if_neg (by omega), if_neg (by omega), hs.2]; exact x148, pe_rk_p hs.1 (by omega) (by omega)⟩)
                · skip
                  refine pe_sipush d_M_plain_94 ?_
                  refine pe_goto (t := 103) d_M_plain_97 ?_
                  refine pe_putiT f_M_190 g_11_17 d_M_plain_103 rfl rfl 17 rfl hB (by first | exact hB _ _ | exact hB0 _ _ | exact hBt _ _ | exact ⟨by omega, by omega⟩) (fun σ103 hB e103 o103 f103 => ?_)
                  try have u103_0 : σ103 29 1 = σ83 29 1 := by first | exact o103 1 (by decide) | exact congrFun (f103 29 (by decide)) 1
                  try have u103_1 : σ103 29 2 = σ83 29 2 := by first | exact o103 2 (by decide) | exact congrFun (f103 29 (by decide)) 2
                  try have u103_2 : σ103 29 3 = σ83 29 3 := by first | exact o103 3 (by decide) | exact congrFun (f103 29 (by decide)) 3
                  try have u103_3 : σ103 29 5 = σ83 29 5 := by first | exact o103 5 (by decide) | exact congrFun (f103 29 (by decide)) 5
                  try have u103_4 : σ103 29 6 = σ83 29 6 := by first | exact o103 6 (by decide) | exact congrFun (f103 29 (by decide)) 6
                  try have u103_5 : σ103 29 7 = σ83 29 7 := by first | exact o103 7 (by decide) | exact congrFun (f103 29 (by decide)) 7
                  try have u103_6 : σ103 29 19 = σ83 29 19 := by first | exact o103 19 (by decide) | exact congrFun (f103 29 (by decide)) 19
                  try have u103_7 : σ103 29 21 = σ83 29 21 := by first | exact o103 21 (by decide) | exact congrFun (f103 29 (by decide)) 21
                  try have u103_8 : σ103 29 13 = σ83 29 13 := by first | exact o103 13 (by decide) | exact congrFun (f103 29 (by decide)) 13
                  try have u103_9 : σ103 29 14 = σ83 29 14 := by first | exact o103 14 (by decide) | exact congrFun (f103 29 (by decide)) 14
                  try have u103_10 : σ103 29 15 = σ83 29 15 := by first | exact o103 15 (by decide) | exact congrFun (f103 29 (by decide)) 15
                  try have u103_11 : σ103 29 16 = σ83 29 16 := by first | exact o103 16 (by decide) | exact congrFun (f103 29 (by decide)) 16
                  try have u103_12 : σ103 29 17 = σ83 29 17 := by first | exact o103 17 (by decide) | exact congrFun (f103 29 (by decide)) 17
                  try have u103_13 : σ103 29 18 = σ83 29 18 := by first | exact o103 18 (by decide) | exact congrFun (f103 29 (by decide)) 18
                  try have u103_14 : σ103 29 20 = σ83 29 20 := by first | exact o103 20 (by decide) | exact congrFun (f103 29 (by decide)) 20
                  refine pe_aload_n d_M_plain_106 rfl ?_
                  refine pe_iload_n d_M_plain_107 rfl ?_
                  refine pe_sipush d_M_plain_108 ?_
                  refine pe_icmp_ne (t := 120) d_M_plain_111 (by first | exact hB _ _ | exact hB0 _ _ | exact hBt _ _ | exact ⟨by omega, by omega⟩) (by first | exact hB _ _ | exact hB0 _ _ | exact hBt _ _ | exact ⟨by omega, by omega⟩) (fun h111 => ?_) (fun h111 => ?_)
                  · skip
                    refine pe_sipush d_M_plain_120 ?_
                    refine pe_putiT f_M_193 g_11_18 d_M_plain_123 rfl rfl 18 rfl hB (by first | exact hB _ _ | exact hB0 _ _ | exact hBt _ _ | exact ⟨by omega, by omega⟩) (fun σ123 hB e123 o123 f123 => ?_)
                    try have u123_0 : σ123 29 1 = σ103 29 1 := by first | exact o123 1 (by decide) | exact congrFun (f123 29 (by decide)) 1
                    try have u123_1 : σ123 29 2 = σ103 29 2 := by first | exact o123 2 (by decide) | exact congrFun (f123 29 (by decide)) 2
                    try have u123_2 : σ123 29 3 = σ103 29 3 := by first | exact o123 3 (by decide) | exact congrFun (f123 29 (by decide)) 3
                    try have u123_3 : σ123 29 5 = σ103 29 5 := by first | exact o123 5 (by decide) | exact congrFun (f123 29 (by decide)) 5
                    try have u123_4 : σ123 29 6 = σ103 29 6 := by first | exact o123 6 (by decide) | exact congrFun (f123 29 (by decide)) 6
                    try have u123_5 : σ123 29 7 = σ103 29 7 := by first | exact o123 7 (by decide) | exact congrFun (f123 29 (by decide)) 7
                    try have u123_6 : σ123 29 19 = σ103 29 19 := by first | exact o123 19 (by decide) | exact congrFun (f123 29 (by decide)) 19
                    try have u123_7 : σ123 29 21 = σ103 29 21 := by first | exact o123 21 (by decide) | exact congrFun (f123 29 (by decide)) 21
                    try have u123_8 : σ123 29 13 = σ103 29 13 := by first | exact o123 13 (by decide) | exact congrFun (f123 29 (by decide)) 13
                    try have u123_9 : σ123 29 14 = σ103 29 14 := by first | exact o123 14 (by decide) | exact congrFun (f123 29 (by decide)) 14
                    try have u123_10 : σ123 29 15 = σ103 29 15 := by first | exact o123 15 (by decide) | exact congrFun (f123 29 (by decide)) 15
                    try have u123_11 : σ123 29 16 = σ103 29 16 := by first | exact o123 16 (by decide) | exact congrFun (f123 29 (by decide)) 16
                    try have u123_12 : σ123 29 17 = σ103 29 17 := by first | exact o123 17 (by decide) | exact congrFun (f123 29 (by decide)) 17
                    try have u123_13 : σ123 29 18 = σ103 29 18 := by first | exact o123 18 (by decide) | exact congrFun (f123 29 (by decide)) 18
                    try have u123_14 : σ123 29 20 = σ103 29 20 := by first | exact o123 20 (by decide) | exact congrFun (f123 29 (by decide)) 20
                    refine pe_goto (t := 151) d_M_plain_126 ?_
                    refine pe_rv d_M_plain_151 ?_
                    first
                    | (exfalso; omega)
                    | (have hA2 := pe_ra_f hA (fun b hb => (f8 b (by rintro rfl; simp at hb))) (fun j hj => (o8 j (by rintro rfl; simp at hj)))
                       exact ⟨hB, (fun b hb => (f123 b (by simp at hb ⊢; try omega)).trans ((f103 b (by simp at hb ⊢; try omega)).trans ((f83 b (by simp at hb ⊢; try omega)).trans ((f61 b (by simp at hb ⊢; try omega)).trans (rfl))))), (fun j hj => (o123 j (by simp at hj ⊢; try omega)).trans ((o103 j (by simp at hj ⊢; try omega)).trans ((o83 j (by simp at hj ⊢; try omega)).trans ((o61 j (by simp at hj ⊢; try omega)).trans (rfl))))), by rw [pe_kk_p hs.1, if_pos (by omega), pe_q_n1]; exact hA2, pe_rk_e hs.1 (by omega) (by omega)⟩)
                    | (have hA2 := pe_ra_f hA (fun b hb => ((f123 b (by rintro rfl; simp at hb)).trans ((f103 b (by rintro rfl; simp at hb)).trans ((f83 b (by rintro rfl; simp at hb)).trans (f61 b (by rintro rfl; simp at hb)))))) (fun j hj => ((o123 j (by rintro rfl; simp at hj)).trans ((o103 j (by rintro rfl; simp at hj)).trans ((o83 j (by rintro rfl; simp at hj)).trans (o61 j (by rintro rfl; simp at hj))))))
                       exact ⟨hB, (fun b hb => (f123 b (by simp at hb ⊢; try omega)).trans ((f103 b (by simp at hb ⊢; try omega)).trans ((f83 b (by simp at hb ⊢; try omega)).trans ((f61 b (by simp at hb ⊢; try omega)).trans (rfl))))), (fun j hj => (o123 j (by simp at hj ⊢; try omega)).trans ((o103 j (by simp at hj ⊢; try omega)).trans ((o83 j (by simp at hj ⊢; try omega)).trans ((o61 j (by simp at hj ⊢; try omega)).trans (rfl))))), by rw [pe_kk_p hs.1, if_pos (by omega), pe_q_n1]; exact hA2, pe_rk_l hs.1 (by omega) (by omega)⟩)
                    | (exact ⟨hB, (fun b hb => (f123 b (by simp at hb ⊢; try omega)).trans ((f103 b (by simp at hb ⊢; try omega)).trans ((f83 b (by simp at hb ⊢; try omega)).trans ((f61 b (by simp at hb ⊢; try omega)).trans (rfl))))), (fun j hj => (o123 j (by simp at hj ⊢; try omega)).trans ((o103 j (by simp at hj ⊢; try omega)).trans ((o83 j (by simp at hj ⊢; try omega)).trans ((o61 j (by simp at hj ⊢; try omega)).trans (rfl))))), by rw [pe_kk_p hs.1, if_neg (by omega), if_neg (by omega), if_neg (by omega), pe_q_c (by omega)]; exact x28, pe_rk_p hs.1 (by omega) (by omega)⟩)
                    | (exact ⟨hB, (fun b hb => (f123 b (by simp at hb ⊢; try omega)).trans ((f103 b (by simp at hb ⊢; try omega)).trans ((f83 b (by simp at hb ⊢; try omega)).trans ((f61 b (by simp at hb ⊢; try omega)).trans (rfl))))), (fun j hj => (o123 j (by simp at hj ⊢; try omega)).trans ((o103 j (by simp at hj ⊢; try omega)).trans ((o83 j (by simp at hj ⊢; try omega)).trans ((o61 j (by simp at hj ⊢; try omega)).trans (rfl))))), by rw [pe_kk_p hs.1, if_neg (by omega), if_pos (by omega), pe_q_c (by omega)]; exact x139, pe_rk_p hs.1 (by omega) (by omega)⟩)
                    | (exact ⟨hB, (fun b hb => (f123 b (by simp at hb ⊢; try omega)).trans ((f103 b (by simp at hb ⊢; try omega)).trans ((f83 b (by simp at hb ⊢; try omega)).trans ((f61 b (by simp at hb ⊢; try omega)).trans (rfl))))), (fun j hj => (o123 j (by simp at hj ⊢; try omega)).trans ((o103 j (by simp at hj ⊢; try omega)).trans ((o83 j (by simp at hj ⊢; try omega)).trans ((o61 j (by simp at hj ⊢; try omega)).trans (rfl))))), by rw [pe_kk_p hs.1, if_neg (by omega), if_neg (by omega), hs.2]; exact x148, pe_rk_p hs.1 (by omega) (by omega)⟩)
                  · skip
                    refine pe_sipush d_M_plain_114 ?_
                    refine pe_goto (t := 123) d_M_plain_117 ?_
                    refine pe_putiT f_M_193 g_11_18 d_M_plain_123 rfl rfl 18 rfl hB (by first | exact hB _ _ | exact hB0 _ _ | exact hBt _ _ | exact ⟨by omega, by omega⟩) (fun σ123 hB e123 o123 f123 => ?_)
                    try have u123_0 : σ123 29 1 = σ103 29 1 := by first | exact o123 1 (by decide) | exact congrFun (f123 29 (by decide)) 1
                    try have u123_1 : σ123 29 2 = σ103 29 2 := by first | exact o123 2 (by decide) | exact congrFun (f123 29 (by decide)) 2
                    try have u123_2 : σ123 29 3 = σ103 29 3 := by first | exact o123 3 (by decide) | exact congrFun (f123 29 (by decide)) 3
                    try have u123_3 : σ123 29 5 = σ103 29 5 := by first | exact o123 5 (by decide) | exact congrFun (f123 29 (by decide)) 5
                    try have u123_4 : σ123 29 6 = σ103 29 6 := by first | exact o123 6 (by decide) | exact congrFun (f123 29 (by decide)) 6
                    try have u123_5 : σ123 29 7 = σ103 29 7 := by first | exact o123 7 (by decide) | exact congrFun (f123 29 (by decide)) 7
                    try have u123_6 : σ123 29 19 = σ103 29 19 := by first | exact o123 19 (by decide) | exact congrFun (f123 29 (by decide)) 19
                    try have u123_7 : σ123 29 21 = σ103 29 21 := by first | exact o123 21 (by decide) | exact congrFun (f123 29 (by decide)) 21
                    try have u123_8 : σ123 29 13 = σ103 29 13 := by first | exact o123 13 (by decide) | exact congrFun (f123 29 (by decide)) 13
                    try have u123_9 : σ123 29 14 = σ103 29 14 := by first | exact o123 14 (by decide) | exact congrFun (f123 29 (by decide)) 14
                    try have u123_10 : σ123 29 15 = σ103 29 15 := by first | exact o123 15 (by decide) | exact congrFun (f123 29 (by decide)) 15
                    try have u123_11 : σ123 29 16 = σ103 29 16 := by first | exact o123 16 (by decide) | exact congrFun (f123 29 (by decide)) 16
                    try have u123_12 : σ123 29 17 = σ103 29 17 := by first | exact o123 17 (by decide) | exact congrFun (f123 29 (by decide)) 17
                    try have u123_13 : σ123 29 18 = σ103 29 18 := by first | exact o123 18 (by decide) | exact congrFun (f123 29 (by decide)) 18
                    try have u123_14 : σ123 29 20 = σ103 29 20 := by first | exact o123 20 (by decide) | exact congrFun (f123 29 (by decide)) 20
                    refine pe_goto (t := 151) d_M_plain_126 ?_
                    refine pe_rv d_M_plain_151 ?_
                    first
                    | (exfalso; omega)
                    | (have hA2 := pe_ra_f hA (fun b hb => (f8 b (by rintro rfl; simp at hb))) (fun j hj => (o8 j (by rintro rfl; simp at hj)))
                       exact ⟨hB, (fun b hb => (f123 b (by simp at hb ⊢; try omega)).trans ((f103 b (by simp at hb ⊢; try omega)).trans ((f83 b (by simp at hb ⊢; try omega)).trans ((f61 b (by simp at hb ⊢; try omega)).trans (rfl))))), (fun j hj => (o123 j (by simp at hj ⊢; try omega)).trans ((o103 j (by simp at hj ⊢; try omega)).trans ((o83 j (by simp at hj ⊢; try omega)).trans ((o61 j (by simp at hj ⊢; try omega)).trans (rfl))))), by rw [pe_kk_p hs.1, if_pos (by omega), pe_q_n1]; exact hA2, pe_rk_e hs.1 (by omega) (by omega)⟩)
                    | (have hA2 := pe_ra_f hA (fun b hb => ((f123 b (by rintro rfl; simp at hb)).trans ((f103 b (by rintro rfl; simp at hb)).trans ((f83 b (by rintro rfl; simp at hb)).trans (f61 b (by rintro rfl; simp at hb)))))) (fun j hj => ((o123 j (by rintro rfl; simp at hj)).trans ((o103 j (by rintro rfl; simp at hj)).trans ((o83 j (by rintro rfl; simp at hj)).trans (o61 j (by rintro rfl; simp at hj))))))
                       exact ⟨hB, (fun b hb => (f123 b (by simp at hb ⊢; try omega)).trans ((f103 b (by simp at hb ⊢; try omega)).trans ((f83 b (by simp at hb ⊢; try omega)).trans ((f61 b (by simp at hb ⊢; try omega)).trans (rfl))))), (fun j hj => (o123 j (by simp at hj ⊢; try omega)).trans ((o103 j (by simp at hj ⊢; try omega)).trans ((o83 j (by simp at hj ⊢; try omega)).trans ((o61 j (by simp at hj ⊢; try omega)).trans (rfl))))), by rw [pe_kk_p hs.1, if_pos (by omega), pe_q_n1]; exact hA2, pe_rk_l hs.1 (by omega) (by omega)⟩)
                    | (exact ⟨hB, (fun b hb => (f123 b (by simp at hb ⊢; try omega)).trans ((f103 b (by simp at hb ⊢; try omega)).trans ((f83 b (by simp at hb ⊢; try omega)).trans ((f61 b (by simp at hb ⊢; try omega)).trans (rfl))))), (fun j hj => (o123 j (by simp at hj ⊢; try omega)).trans ((o103 j (by simp at hj ⊢; try omega)).trans ((o83 j (by simp at hj ⊢; try omega)).trans ((o61 j (by simp at hj ⊢; try omega)).trans (rfl))))), by rw [pe_kk_p hs.1, if_neg (by omega), if_neg (by omega), if_neg (by omega), pe_q_c (by omega)]; exact x28, pe_rk_p hs.1 (by omega) (by omega)⟩)
                    | (exact ⟨hB, (fun b hb => (f123 b (by simp at hb ⊢; try omega)).trans ((f103 b (by simp at hb ⊢; try omega)).trans ((f83 b (by simp at hb ⊢; try omega)).trans ((f61 b (by simp at hb ⊢; try omega)).trans (rfl))))), (fun j hj => (o123 j (by simp at hj ⊢; try omega)).trans ((o103 j (by simp at hj ⊢; try omega)).trans ((o83 j (by simp at hj ⊢; try omega)).trans ((o61 j (by simp at hj ⊢; try omega)).trans (rfl))))), by rw [pe_kk_p hs.1, if_neg (by omega), if_pos (by omega), pe_q_c (by omega)]; exact x139, pe_rk_p hs.1 (by omega) (by omega)⟩)
                    | (exact ⟨hB, (fun b hb => (f123 b (by simp at hb ⊢; try omega)).trans ((f103 b (by simp at hb ⊢; try omega)).trans ((f83 b (by simp at hb ⊢; try omega)).trans ((f61 b (by simp at hb ⊢; try omega)).trans (rfl))))), (fun j hj => (o123 j (by simp at hj ⊢; try omega)).trans ((o103 j (by simp at hj ⊢; try omega)).trans ((o83 j (by simp at hj ⊢; try omega)).trans ((o61 j (by simp at hj ⊢; try omega)).trans (rfl))))), by rw [pe_kk_p hs.1, if_neg (by omega), if_neg (by omega), hs.2]; exact x148, pe_rk_p hs.1 (by omega) (by omega)⟩)
              · skip
                refine pe_iload_n d_M_plain_72 rfl ?_
                refine pe_bipush d_M_plain_73 ?_
                refine pe_iand d_M_plain_75 (pe_and 5 32 (by omega) (by omega)) ?_
                refine pe_goto (t := 83) d_M_plain_76 ?_
                refine pe_putiT f_M_187 g_11_16 d_M_plain_83 rfl rfl 16 rfl hB (by first | exact hB _ _ | exact hB0 _ _ | exact hBt _ _ | exact ⟨by omega, by omega⟩) (fun σ83 hB e83 o83 f83 => ?_)
                try have u83_0 : σ83 29 1 = σ61 29 1 := by first | exact o83 1 (by decide) | exact congrFun (f83 29 (by decide)) 1
                try have u83_1 : σ83 29 2 = σ61 29 2 := by first | exact o83 2 (by decide) | exact congrFun (f83 29 (by decide)) 2
                try have u83_2 : σ83 29 3 = σ61 29 3 := by first | exact o83 3 (by decide) | exact congrFun (f83 29 (by decide)) 3
                try have u83_3 : σ83 29 5 = σ61 29 5 := by first | exact o83 5 (by decide) | exact congrFun (f83 29 (by decide)) 5
                try have u83_4 : σ83 29 6 = σ61 29 6 := by first | exact o83 6 (by decide) | exact congrFun (f83 29 (by decide)) 6
                try have u83_5 : σ83 29 7 = σ61 29 7 := by first | exact o83 7 (by decide) | exact congrFun (f83 29 (by decide)) 7
                try have u83_6 : σ83 29 19 = σ61 29 19 := by first | exact o83 19 (by decide) | exact congrFun (f83 29 (by decide)) 19
                try have u83_7 : σ83 29 21 = σ61 29 21 := by first | exact o83 21 (by decide) | exact congrFun (f83 29 (by decide)) 21
                try have u83_8 : σ83 29 13 = σ61 29 13 := by first | exact o83 13 (by decide) | exact congrFun (f83 29 (by decide)) 13
                try have u83_9 : σ83 29 14 = σ61 29 14 := by first | exact o83 14 (by decide) | exact congrFun (f83 29 (by decide)) 14
                try have u83_10 : σ83 29 15 = σ61 29 15 := by first | exact o83 15 (by decide) | exact congrFun (f83 29 (by decide)) 15
                try have u83_11 : σ83 29 16 = σ61 29 16 := by first | exact o83 16 (by decide) | exact congrFun (f83 29 (by decide)) 16
                try have u83_12 : σ83 29 17 = σ61 29 17 := by first | exact o83 17 (by decide) | exact congrFun (f83 29 (by decide)) 17
                try have u83_13 : σ83 29 18 = σ61 29 18 := by first | exact o83 18 (by decide) | exact congrFun (f83 29 (by decide)) 18
                try have u83_14 : σ83 29 20 = σ61 29 20 := by first | exact o83 20 (by decide) | exact congrFun (f83 29 (by decide)) 20
                refine pe_aload_n d_M_plain_86 rfl ?_
                refine pe_iload_n d_M_plain_87 rfl ?_
                refine pe_sipush d_M_plain_88 ?_
                refine pe_icmp_ne (t := 100) d_M_plain_91 (by first | exact hB _ _ | exact hB0 _ _ | exact hBt _ _ | exact ⟨by omega, by omega⟩) (by first | exact hB _ _ | exact hB0 _ _ | exact hBt _ _ | exact ⟨by omega, by omega⟩) (fun h91 => ?_) (fun h91 => ?_)
                · skip
                  refine pe_sipush d_M_plain_100 ?_
                  refine pe_putiT f_M_190 g_11_17 d_M_plain_103 rfl rfl 17 rfl hB (by first | exact hB _ _ | exact hB0 _ _ | exact hBt _ _ | exact ⟨by omega, by omega⟩) (fun σ103 hB e103 o103 f103 => ?_)
                  try have u103_0 : σ103 29 1 = σ83 29 1 := by first | exact o103 1 (by decide) | exact congrFun (f103 29 (by decide)) 1
                  try have u103_1 : σ103 29 2 = σ83 29 2 := by first | exact o103 2 (by decide) | exact congrFun (f103 29 (by decide)) 2
                  try have u103_2 : σ103 29 3 = σ83 29 3 := by first | exact o103 3 (by decide) | exact congrFun (f103 29 (by decide)) 3
                  try have u103_3 : σ103 29 5 = σ83 29 5 := by first | exact o103 5 (by decide) | exact congrFun (f103 29 (by decide)) 5
                  try have u103_4 : σ103 29 6 = σ83 29 6 := by first | exact o103 6 (by decide) | exact congrFun (f103 29 (by decide)) 6
                  try have u103_5 : σ103 29 7 = σ83 29 7 := by first | exact o103 7 (by decide) | exact congrFun (f103 29 (by decide)) 7
                  try have u103_6 : σ103 29 19 = σ83 29 19 := by first | exact o103 19 (by decide) | exact congrFun (f103 29 (by decide)) 19
                  try have u103_7 : σ103 29 21 = σ83 29 21 := by first | exact o103 21 (by decide) | exact congrFun (f103 29 (by decide)) 21
                  try have u103_8 : σ103 29 13 = σ83 29 13 := by first | exact o103 13 (by decide) | exact congrFun (f103 29 (by decide)) 13
                  try have u103_9 : σ103 29 14 = σ83 29 14 := by first | exact o103 14 (by decide) | exact congrFun (f103 29 (by decide)) 14
                  try have u103_10 : σ103 29 15 = σ83 29 15 := by first | exact o103 15 (by decide) | exact congrFun (f103 29 (by decide)) 15
                  try have u103_11 : σ103 29 16 = σ83 29 16 := by first | exact o103 16 (by decide) | exact congrFun (f103 29 (by decide)) 16
                  try have u103_12 : σ103 29 17 = σ83 29 17 := by first | exact o103 17 (by decide) | exact congrFun (f103 29 (by decide)) 17
                  try have u103_13 : σ103 29 18 = σ83 29 18 := by first | exact o103 18 (by decide) | exact congrFun (f103 29 (by decide)) 18
                  try have u103_14 : σ103 29 20 = σ83 29 20 := by first | exact o103 20 (by decide) | exact congrFun (f103 29 (by decide)) 20
                  refine pe_aload_n d_M_plain_106 rfl ?_
                  refine pe_iload_n d_M_plain_107 rfl ?_
                  refine pe_sipush d_M_plain_108 ?_
                  refine pe_icmp_ne (t := 120) d_M_plain_111 (by first | exact hB _ _ | exact hB0 _ _ | exact hBt _ _ | exact ⟨by omega, by omega⟩) (by first | exact hB _ _ | exact hB0 _ _ | exact hBt _ _ | exact ⟨by omega, by omega⟩) (fun h111 => ?_) (fun h111 => ?_)
                  · skip
                    refine pe_sipush d_M_plain_120 ?_
                    refine pe_putiT f_M_193 g_11_18 d_M_plain_123 rfl rfl 18 rfl hB (by first | exact hB _ _ | exact hB0 _ _ | exact hBt _ _ | exact ⟨by omega, by omega⟩) (fun σ123 hB e123 o123 f123 => ?_)
                    try have u123_0 : σ123 29 1 = σ103 29 1 := by first | exact o123 1 (by decide) | exact congrFun (f123 29 (by decide)) 1
                    try have u123_1 : σ123 29 2 = σ103 29 2 := by first | exact o123 2 (by decide) | exact congrFun (f123 29 (by decide)) 2
                    try have u123_2 : σ123 29 3 = σ103 29 3 := by first | exact o123 3 (by decide) | exact congrFun (f123 29 (by decide)) 3
                    try have u123_3 : σ123 29 5 = σ103 29 5 := by first | exact o123 5 (by decide) | exact congrFun (f123 29 (by decide)) 5
                    try have u123_4 : σ123 29 6 = σ103 29 6 := by first | exact o123 6 (by decide) | exact congrFun (f123 29 (by decide)) 6
                    try have u123_5 : σ123 29 7 = σ103 29 7 := by first | exact o123 7 (by decide) | exact congrFun (f123 29 (by decide)) 7
                    try have u123_6 : σ123 29 19 = σ103 29 19 := by first | exact o123 19 (by decide) | exact congrFun (f123 29 (by decide)) 19
                    try have u123_7 : σ123 29 21 = σ103 29 21 := by first | exact o123 21 (by decide) | exact congrFun (f123 29 (by decide)) 21
                    try have u123_8 : σ123 29 13 = σ103 29 13 := by first | exact o123 13 (by decide) | exact congrFun (f123 29 (by decide)) 13
                    try have u123_9 : σ123 29 14 = σ103 29 14 := by first | exact o123 14 (by decide) | exact congrFun (f123 29 (by decide)) 14
                    try have u123_10 : σ123 29 15 = σ103 29 15 := by first | exact o123 15 (by decide) | exact congrFun (f123 29 (by decide)) 15
                    try have u123_11 : σ123 29 16 = σ103 29 16 := by first | exact o123 16 (by decide) | exact congrFun (f123 29 (by decide)) 16
                    try have u123_12 : σ123 29 17 = σ103 29 17 := by first | exact o123 17 (by decide) | exact congrFun (f123 29 (by decide)) 17
                    try have u123_13 : σ123 29 18 = σ103 29 18 := by first | exact o123 18 (by decide) | exact congrFun (f123 29 (by decide)) 18
                    try have u123_14 : σ123 29 20 = σ103 29 20 := by first | exact o123 20 (by decide) | exact congrFun (f123 29 (by decide)) 20
                    refine pe_goto (t := 151) d_M_plain_126 ?_
                    refine pe_rv d_M_plain_151 ?_
                    first
                    | (exfalso; omega)
                    | (have hA2 := pe_ra_f hA (fun b hb => (f8 b (by rintro rfl; simp at hb))) (fun j hj => (o8 j (by rintro rfl; simp at hj)))
                       exact ⟨hB, (fun b hb => (f123 b (by simp at hb ⊢; try omega)).trans ((f103 b (by simp at hb ⊢; try omega)).trans ((f83 b (by simp at hb ⊢; try omega)).trans ((f61 b (by simp at hb ⊢; try omega)).trans (rfl))))), (fun j hj => (o123 j (by simp at hj ⊢; try omega)).trans ((o103 j (by simp at hj ⊢; try omega)).trans ((o83 j (by simp at hj ⊢; try omega)).trans ((o61 j (by simp at hj ⊢; try omega)).trans (rfl))))), by rw [pe_kk_p hs.1, if_pos (by omega), pe_q_n1]; exact hA2, pe_rk_e hs.1 (by omega) (by omega)⟩)
                    | (have hA2 := pe_ra_f hA (fun b hb => ((f123 b (by rintro rfl; simp at hb)).trans ((f103 b (by rintro rfl; simp at hb)).trans ((f83 b (by rintro rfl; simp at hb)).trans (f61 b (by rintro rfl; simp at hb)))))) (fun j hj => ((o123 j (by rintro rfl; simp at hj)).trans ((o103 j (by rintro rfl; simp at hj)).trans ((o83 j (by rintro rfl; simp at hj)).trans (o61 j (by rintro rfl; simp at hj))))))
                       exact ⟨hB, (fun b hb => (f123 b (by simp at hb ⊢; try omega)).trans ((f103 b (by simp at hb ⊢; try omega)).trans ((f83 b (by simp at hb ⊢; try omega)).trans ((f61 b (by simp at hb ⊢; try omega)).trans (rfl))))), (fun j hj => (o123 j (by simp at hj ⊢; try omega)).trans ((o103 j (by simp at hj ⊢; try omega)).trans ((o83 j (by simp at hj ⊢; try omega)).trans ((o61 j (by simp at hj ⊢; try omega)).trans (rfl))))), by rw [pe_kk_p hs.1, if_pos (by omega), pe_q_n1]; exact hA2, pe_rk_l hs.1 (by omega) (by omega)⟩)
                    | (exact ⟨hB, (fun b hb => (f123 b (by simp at hb ⊢; try omega)).trans ((f103 b (by simp at hb ⊢; try omega)).trans ((f83 b (by simp at hb ⊢; try omega)).trans ((f61 b (by simp at hb ⊢; try omega)).trans (rfl))))), (fun j hj => (o123 j (by simp at hj ⊢; try omega)).trans ((o103 j (by simp at hj ⊢; try omega)).trans ((o83 j (by simp at hj ⊢; try omega)).trans ((o61 j (by simp at hj ⊢; try omega)).trans (rfl))))), by rw [pe_kk_p hs.1, if_neg (by omega), if_neg (by omega), if_neg (by omega), pe_q_c (by omega)]; exact x28, pe_rk_p hs.1 (by omega) (by omega)⟩)
                    | (exact ⟨hB, (fun b hb => (f123 b (by simp at hb ⊢; try omega)).trans ((f103 b (by simp at hb ⊢; try omega)).trans ((f83 b (by simp at hb ⊢; try omega)).trans ((f61 b (by simp at hb ⊢; try omega)).trans (rfl))))), (fun j hj => (o123 j (by simp at hj ⊢; try omega)).trans ((o103 j (by simp at hj ⊢; try omega)).trans ((o83 j (by simp at hj ⊢; try omega)).trans ((o61 j (by simp at hj ⊢; try omega)).trans (rfl))))), by rw [pe_kk_p hs.1, if_neg (by omega), if_pos (by omega), pe_q_c (by omega)]; exact x139, pe_rk_p hs.1 (by omega) (by omega)⟩)
                    | (exact ⟨hB, (fun b hb => (f123 b (by simp at hb ⊢; try omega)).trans ((f103 b (by simp at hb ⊢; try omega)).trans ((f83 b (by simp at hb ⊢; try omega)).trans ((f61 b (by simp at hb ⊢; try omega)).trans (rfl))))), (fun j hj => (o123 j (by simp at hj ⊢; try omega)).trans ((o103 j (by simp at hj ⊢; try omega)).trans ((o83 j (by simp at hj ⊢; try omega)).trans ((o61 j (by simp at hj ⊢; try omega)).trans (rfl))))), by rw [pe_kk_p hs.1, if_neg (by omega), if_neg (by omega), hs.2]; exact x148, pe_rk_p hs.1 (by omega) (by omega)⟩)
                  · skip
                    refine pe_sipush d_M_plain_114 ?_
                    refine pe_goto (t := 123) d_M_plain_117 ?_
                    refine pe_putiT f_M_193 g_11_18 d_M_plain_123 rfl rfl 18 rfl hB (by first | exact hB _ _ | exact hB0 _ _ | exact hBt _ _ | exact ⟨by omega, by omega⟩) (fun σ123 hB e123 o123 f123 => ?_)
                    try have u123_0 : σ123 29 1 = σ103 29 1 := by first | exact o123 1 (by decide) | exact congrFun (f123 29 (by decide)) 1
                    try have u123_1 : σ123 29 2 = σ103 29 2 := by first | exact o123 2 (by decide) | exact congrFun (f123 29 (by decide)) 2
                    try have u123_2 : σ123 29 3 = σ103 29 3 := by first | exact o123 3 (by decide) | exact congrFun (f123 29 (by decide)) 3
                    try have u123_3 : σ123 29 5 = σ103 29 5 := by first | exact o123 5 (by decide) | exact congrFun (f123 29 (by decide)) 5
                    try have u123_4 : σ123 29 6 = σ103 29 6 := by first | exact o123 6 (by decide) | exact congrFun (f123 29 (by decide)) 6
                    try have u123_5 : σ123 29 7 = σ103 29 7 := by first | exact o123 7 (by decide) | exact congrFun (f123 29 (by decide)) 7
                    try have u123_6 : σ123 29 19 = σ103 29 19 := by first | exact o123 19 (by decide) | exact congrFun (f123 29 (by decide)) 19
                    try have u123_7 : σ123 29 21 = σ103 29 21 := by first | exact o123 21 (by decide) | exact congrFun (f123 29 (by decide)) 21
                    try have u123_8 : σ123 29 13 = σ103 29 13 := by first | exact o123 13 (by decide) | exact congrFun (f123 29 (by decide)) 13
                    try have u123_9 : σ123 29 14 = σ103 29 14 := by first | exact o123 14 (by decide) | exact congrFun (f123 29 (by decide)) 14
                    try have u123_10 : σ123 29 15 = σ103 29 15 := by first | exact o123 15 (by decide) | exact congrFun (f123 29 (by decide)) 15
                    try have u123_11 : σ123 29 16 = σ103 29 16 := by first | exact o123 16 (by decide) | exact congrFun (f123 29 (by decide)) 16
                    try have u123_12 : σ123 29 17 = σ103 29 17 := by first | exact o123 17 (by decide) | exact congrFun (f123 29 (by decide)) 17
                    try have u123_13 : σ123 29 18 = σ103 29 18 := by first | exact o123 18 (by decide) | exact congrFun (f123 29 (by decide)) 18
                    try have u123_14 : σ123 29 20 = σ103 29 20 := by first | exact o123 20 (by decide) | exact congrFun (f123 29 (by decide)) 20
                    refine pe_goto (t := 151) d_M_plain_126 ?_
                    refine pe_rv d_M_plain_151 ?_
                    first
                    | (exfalso; omega)
                    | (have hA2 := pe_ra_f hA (fun b hb => (f8 b (by rintro rfl; simp at hb))) (fun j hj => (o8 j (by rintro rfl; simp at hj)))
                       exact ⟨hB, (fun b hb => (f123 b (by simp at hb ⊢; try omega)).trans ((f103 b (by simp at hb ⊢; try omega)).trans ((f83 b (by simp at hb ⊢; try omega)).trans ((f61 b (by simp at hb ⊢; try omega)).trans (rfl))))), (fun j hj => (o123 j (by simp at hj ⊢; try omega)).trans ((o103 j (by simp at hj ⊢; try omega)).trans ((o83 j (by simp at hj ⊢; try omega)).trans ((o61 j (by simp at hj ⊢; try omega)).trans (rfl))))), by rw [pe_kk_p hs.1, if_pos (by omega), pe_q_n1]; exact hA2, pe_rk_e hs.1 (by omega) (by omega)⟩)
                    | (have hA2 := pe_ra_f hA (fun b hb => ((f123 b (by rintro rfl; simp at hb)).trans ((f103 b (by rintro rfl; simp at hb)).trans ((f83 b (by rintro rfl; simp at hb)).trans (f61 b (by rintro rfl; simp at hb)))))) (fun j hj => ((o123 j (by rintro rfl; simp at hj)).trans ((o103 j (by rintro rfl; simp at hj)).trans ((o83 j (by rintro rfl; simp at hj)).trans (o61 j (by rintro rfl; simp at hj))))))
                       exact ⟨hB, (fun b hb => (f123 b (by simp at hb ⊢; try omega)).trans ((f103 b (by simp at hb ⊢; try omega)).trans ((f83 b (by simp at hb ⊢; try omega)).trans ((f61 b (by simp at hb ⊢; try omega)).trans (rfl))))), (fun j hj => (o123 j (by simp at hj ⊢; try omega)).trans ((o103 j (by simp at hj ⊢; try omega)).trans ((o83 j (by simp at hj ⊢; try omega)).trans ((o61 j (by simp at hj ⊢; try omega)).trans (rfl))))), by rw [pe_kk_p hs.1, if_pos (by omega), pe_q_n1]; exact hA2, pe_rk_l hs.1 (by omega) (by omega)⟩)
                    | (exact ⟨hB, (fun b hb => (f123 b (by simp at hb ⊢; try omega)).trans ((f103 b (by simp at hb ⊢; try omega)).trans ((f83 b (by simp at hb ⊢; try omega)).trans ((f61 b (by simp at hb ⊢; try omega)).trans (rfl))))), (fun j hj => (o123 j (by simp at hj ⊢; try omega)).trans ((o103 j (by simp at hj ⊢; try omega)).trans ((o83 j (by simp at hj ⊢; try omega)).trans ((o61 j (by simp at hj ⊢; try omega)).trans (rfl))))), by rw [pe_kk_p hs.1, if_neg (by omega), if_neg (by omega), if_neg (by omega), pe_q_c (by omega)]; exact x28, pe_rk_p hs.1 (by omega) (by omega)⟩)
                    | (exact ⟨hB, (fun b hb => (f123 b (by simp at hb ⊢; try omega)).trans ((f103 b (by simp at hb ⊢; try omega)).trans ((f83 b (by simp at hb ⊢; try omega)).trans ((f61 b (by simp at hb ⊢; try omega)).trans (rfl))))), (fun j hj => (o123 j (by simp at hj ⊢; try omega)).trans ((o103 j (by simp at hj ⊢; try omega)).trans ((o83 j (by simp at hj ⊢; try omega)).trans ((o61 j (by simp at hj ⊢; try omega)).trans (rfl))))), by rw [pe_kk_p hs.1, if_neg (by omega), if_pos (by omega), pe_q_c (by omega)]; exact x139, pe_rk_p hs.1 (by omega) (by omega)⟩)
                    | (exact ⟨hB, (fun b hb => (f123 b (by simp at hb ⊢; try omega)).trans ((f103 b (by simp at hb ⊢; try omega)).trans ((f83 b (by simp at hb ⊢; try omega)).trans ((f61 b (by simp at hb ⊢; try omega)).trans (rfl))))), (fun j hj => (o123 j (by simp at hj ⊢; try omega)).trans ((o103 j (by simp at hj ⊢; try omega)).trans ((o83 j (by simp at hj ⊢; try omega)).trans ((o61 j (by simp at hj ⊢; try omega)).trans (rfl))))), by rw [pe_kk_p hs.1, if_neg (by omega), if_neg (by omega), hs.2]; exact x148, pe_rk_p hs.1 (by omega) (by omega)⟩)
                · skip
                  refine pe_sipush d_M_plain_94 ?_
                  refine pe_goto (t := 103) d_M_plain_97 ?_
                  refine pe_putiT f_M_190 g_11_17 d_M_plain_103 rfl rfl 17 rfl hB (by first | exact hB _ _ | exact hB0 _ _ | exact hBt _ _ | exact ⟨by omega, by omega⟩) (fun σ103 hB e103 o103 f103 => ?_)
                  try have u103_0 : σ103 29 1 = σ83 29 1 := by first | exact o103 1 (by decide) | exact congrFun (f103 29 (by decide)) 1
                  try have u103_1 : σ103 29 2 = σ83 29 2 := by first | exact o103 2 (by decide) | exact congrFun (f103 29 (by decide)) 2
                  try have u103_2 : σ103 29 3 = σ83 29 3 := by first | exact o103 3 (by decide) | exact congrFun (f103 29 (by decide)) 3
                  try have u103_3 : σ103 29 5 = σ83 29 5 := by first | exact o103 5 (by decide) | exact congrFun (f103 29 (by decide)) 5
                  try have u103_4 : σ103 29 6 = σ83 29 6 := by first | exact o103 6 (by decide) | exact congrFun (f103 29 (by decide)) 6
                  try have u103_5 : σ103 29 7 = σ83 29 7 := by first | exact o103 7 (by decide) | exact congrFun (f103 29 (by decide)) 7
                  try have u103_6 : σ103 29 19 = σ83 29 19 := by first | exact o103 19 (by decide) | exact congrFun (f103 29 (by decide)) 19
                  try have u103_7 : σ103 29 21 = σ83 29 21 := by first | exact o103 21 (by decide) | exact congrFun (f103 29 (by decide)) 21
                  try have u103_8 : σ103 29 13 = σ83 29 13 := by first | exact o103 13 (by decide) | exact congrFun (f103 29 (by decide)) 13
                  try have u103_9 : σ103 29 14 = σ83 29 14 := by first | exact o103 14 (by decide) | exact congrFun (f103 29 (by decide)) 14
                  try have u103_10 : σ103 29 15 = σ83 29 15 := by first | exact o103 15 (by decide) | exact congrFun (f103 29 (by decide)) 15
                  try have u103_11 : σ103 29 16 = σ83 29 16 := by first | exact o103 16 (by decide) | exact congrFun (f103 29 (by decide)) 16
                  try have u103_12 : σ103 29 17 = σ83 29 17 := by first | exact o103 17 (by decide) | exact congrFun (f103 29 (by decide)) 17
                  try have u103_13 : σ103 29 18 = σ83 29 18 := by first | exact o103 18 (by decide) | exact congrFun (f103 29 (by decide)) 18
                  try have u103_14 : σ103 29 20 = σ83 29 20 := by first | exact o103 20 (by decide) | exact congrFun (f103 29 (by decide)) 20
                  refine pe_aload_n d_M_plain_106 rfl ?_
                  refine pe_iload_n d_M_plain_107 rfl ?_
                  refine pe_sipush d_M_plain_108 ?_
                  refine pe_icmp_ne (t := 120) d_M_plain_111 (by first | exact hB _ _ | exact hB0 _ _ | exact hBt _ _ | exact ⟨by omega, by omega⟩) (by first | exact hB _ _ | exact hB0 _ _ | exact hBt _ _ | exact ⟨by omega, by omega⟩) (fun h111 => ?_) (fun h111 => ?_)
                  · skip
                    refine pe_sipush d_M_plain_120 ?_
                    refine pe_putiT f_M_193 g_11_18 d_M_plain_123 rfl rfl 18 rfl hB (by first | exact hB _ _ | exact hB0 _ _ | exact hBt _ _ | exact ⟨by omega, by omega⟩) (fun σ123 hB e123 o123 f123 => ?_)
                    try have u123_0 : σ123 29 1 = σ103 29 1 := by first | exact o123 1 (by decide) | exact congrFun (f123 29 (by decide)) 1
                    try have u123_1 : σ123 29 2 = σ103 29 2 := by first | exact o123 2 (by decide) | exact congrFun (f123 29 (by decide)) 2
                    try have u123_2 : σ123 29 3 = σ103 29 3 := by first | exact o123 3 (by decide) | exact congrFun (f123 29 (by decide)) 3
                    try have u123_3 : σ123 29 5 = σ103 29 5 := by first | exact o123 5 (by decide) | exact congrFun (f123 29 (by decide)) 5
                    try have u123_4 : σ123 29 6 = σ103 29 6 := by first | exact o123 6 (by decide) | exact congrFun (f123 29 (by decide)) 6
                    try have u123_5 : σ123 29 7 = σ103 29 7 := by first | exact o123 7 (by decide) | exact congrFun (f123 29 (by decide)) 7
                    try have u123_6 : σ123 29 19 = σ103 29 19 := by first | exact o123 19 (by decide) | exact congrFun (f123 29 (by decide)) 19
                    try have u123_7 : σ123 29 21 = σ103 29 21 := by first | exact o123 21 (by decide) | exact congrFun (f123 29 (by decide)) 21
                    try have u123_8 : σ123 29 13 = σ103 29 13 := by first | exact o123 13 (by decide) | exact congrFun (f123 29 (by decide)) 13
                    try have u123_9 : σ123 29 14 = σ103 29 14 := by first | exact o123 14 (by decide) | exact congrFun (f123 29 (by decide)) 14
                    try have u123_10 : σ123 29 15 = σ103 29 15 := by first | exact o123 15 (by decide) | exact congrFun (f123 29 (by decide)) 15
                    try have u123_11 : σ123 29 16 = σ103 29 16 := by first | exact o123 16 (by decide) | exact congrFun (f123 29 (by decide)) 16
                    try have u123_12 : σ123 29 17 = σ103 29 17 := by first | exact o123 17 (by decide) | exact congrFun (f123 29 (by decide)) 17
                    try have u123_13 : σ123 29 18 = σ103 29 18 := by first | exact o123 18 (by decide) | exact congrFun (f123 29 (by decide)) 18
                    try have u123_14 : σ123 29 20 = σ103 29 20 := by first | exact o123 20 (by decide) | exact congrFun (f123 29 (by decide)) 20
                    refine pe_goto (t := 151) d_M_plain_126 ?_
                    refine pe_rv d_M_plain_151 ?_
                    first
                    | (exfalso; omega)
                    | (have hA2 := pe_ra_f hA (fun b hb => (f8 b (by rintro rfl; simp at hb))) (fun j hj => (o8 j (by rintro rfl; simp at hj)))
                       exact ⟨hB, (fun b hb => (f123 b (by simp at hb ⊢; try omega)).trans ((f103 b (by simp at hb ⊢; try omega)).trans ((f83 b (by simp at hb ⊢; try omega)).trans ((f61 b (by simp at hb ⊢; try omega)).trans (rfl))))), (fun j hj => (o123 j (by simp at hj ⊢; try omega)).trans ((o103 j (by simp at hj ⊢; try omega)).trans ((o83 j (by simp at hj ⊢; try omega)).trans ((o61 j (by simp at hj ⊢; try omega)).trans (rfl))))), by rw [pe_kk_p hs.1, if_pos (by omega), pe_q_n1]; exact hA2, pe_rk_e hs.1 (by omega) (by omega)⟩)
                    | (have hA2 := pe_ra_f hA (fun b hb => ((f123 b (by rintro rfl; simp at hb)).trans ((f103 b (by rintro rfl; simp at hb)).trans ((f83 b (by rintro rfl; simp at hb)).trans (f61 b (by rintro rfl; simp at hb)))))) (fun j hj => ((o123 j (by rintro rfl; simp at hj)).trans ((o103 j (by rintro rfl; simp at hj)).trans ((o83 j (by rintro rfl; simp at hj)).trans (o61 j (by rintro rfl; simp at hj))))))
                       exact ⟨hB, (fun b hb => (f123 b (by simp at hb ⊢; try omega)).trans ((f103 b (by simp at hb ⊢; try omega)).trans ((f83 b (by simp at hb ⊢; try omega)).trans ((f61 b (by simp at hb ⊢; try omega)).trans (rfl))))), (fun j hj => (o123 j (by simp at hj ⊢; try omega)).trans ((o103 j (by simp at hj ⊢; try omega)).trans ((o83 j (by simp at hj ⊢; try omega)).trans ((o61 j (by simp at hj ⊢; try omega)).trans (rfl))))), by rw [pe_kk_p hs.1, if_pos (by omega), pe_q_n1]; exact hA2, pe_rk_l hs.1 (by omega) (by omega)⟩)
                    | (exact ⟨hB, (fun b hb => (f123 b (by simp at hb ⊢; try omega)).trans ((f103 b (by simp at hb ⊢; try omega)).trans ((f83 b (by simp at hb ⊢; try omega)).trans ((f61 b (by simp at hb ⊢; try omega)).trans (rfl))))), (fun j hj => (o123 j (by simp at hj ⊢; try omega)).trans ((o103 j (by simp at hj ⊢; try omega)).trans ((o83 j (by simp at hj ⊢; try omega)).trans ((o61 j (by simp at hj ⊢; try omega)).trans (rfl))))), by rw [pe_kk_p hs.1, if_neg (by omega), if_neg (by omega), if_neg (by omega), pe_q_c (by omega)]; exact x28, pe_rk_p hs.1 (by omega) (by omega)⟩)
                    | (exact ⟨hB, (fun b hb => (f123 b (by simp at hb ⊢; try omega)).trans ((f103 b (by simp at hb ⊢; try omega)).trans ((f83 b (by simp at hb ⊢; try omega)).trans ((f61 b (by simp at hb ⊢; try omega)).trans (rfl))))), (fun j hj => (o123 j (by simp at hj ⊢; try omega)).trans ((o103 j (by simp at hj ⊢; try omega)).trans ((o83 j (by simp at hj ⊢; try omega)).trans ((o61 j (by simp at hj ⊢; try omega)).trans (rfl))))), by rw [pe_kk_p hs.1, if_neg (by omega), if_pos (by omega), pe_q_c (by omega)]; exact x139, pe_rk_p hs.1 (by omega) (by omega)⟩)
                    | (exact ⟨hB, (fun b hb => (f123 b (by simp at hb ⊢; try omega)).trans ((f103 b (by simp at hb ⊢; try omega)).trans ((f83 b (by simp at hb ⊢; try omega)).trans ((f61 b (by simp at hb ⊢; try omega)).trans (rfl))))), (fun j hj => (o123 j (by simp at hj ⊢; try omega)).trans ((o103 j (by simp at hj ⊢; try omega)).trans ((o83 j (by simp at hj ⊢; try omega)).trans ((o61 j (by simp at hj ⊢; try omega)).trans (rfl))))), by rw [pe_kk_p hs.1, if_neg (by omega), if_neg (by omega), hs.2]; exact x148, pe_rk_p hs.1 (by omega) (by omega)⟩)
                  · skip
                    refine pe_sipush d_M_plain_114 ?_
                    refine pe_goto (t := 123) d_M_plain_117 ?_
                    refine pe_putiT f_M_193 g_11_18 d_M_plain_123 rfl rfl 18 rfl hB (by first | exact hB _ _ | exact hB0 _ _ | exact hBt _ _ | exact ⟨by omega, by omega⟩) (fun σ123 hB e123 o123 f123 => ?_)
                    try have u123_0 : σ123 29 1 = σ103 29 1 := by first | exact o123 1 (by decide) | exact congrFun (f123 29 (by decide)) 1
                    try have u123_1 : σ123 29 2 = σ103 29 2 := by first | exact o123 2 (by decide) | exact congrFun (f123 29 (by decide)) 2
                    try have u123_2 : σ123 29 3 = σ103 29 3 := by first | exact o123 3 (by decide) | exact congrFun (f123 29 (by decide)) 3
                    try have u123_3 : σ123 29 5 = σ103 29 5 := by first | exact o123 5 (by decide) | exact congrFun (f123 29 (by decide)) 5
                    try have u123_4 : σ123 29 6 = σ103 29 6 := by first | exact o123 6 (by decide) | exact congrFun (f123 29 (by decide)) 6
                    try have u123_5 : σ123 29 7 = σ103 29 7 := by first | exact o123 7 (by decide) | exact congrFun (f123 29 (by decide)) 7
                    try have u123_6 : σ123 29 19 = σ103 29 19 := by first | exact o123 19 (by decide) | exact congrFun (f123 29 (by decide)) 19
                    try have u123_7 : σ123 29 21 = σ103 29 21 := by first | exact o123 21 (by decide) | exact congrFun (f123 29 (by decide)) 21
                    try have u123_8 : σ123 29 13 = σ103 29 13 := by first | exact o123 13 (by decide) | exact congrFun (f123 29 (by decide)) 13
                    try have u123_9 : σ123 29 14 = σ103 29 14 := by first | exact o123 14 (by decide) | exact congrFun (f123 29 (by decide)) 14
                    try have u123_10 : σ123 29 15 = σ103 29 15 := by first | exact o123 15 (by decide) | exact congrFun (f123 29 (by decide)) 15
                    try have u123_11 : σ123 29 16 = σ103 29 16 := by first | exact o123 16 (by decide) | exact congrFun (f123 29 (by decide)) 16
                    try have u123_12 : σ123 29 17 = σ103 29 17 := by first | exact o123 17 (by decide) | exact congrFun (f123 29 (by decide)) 17
                    try have u123_13 : σ123 29 18 = σ103 29 18 := by first | exact o123 18 (by decide) | exact congrFun (f123 29 (by decide)) 18
                    try have u123_14 : σ123 29 20 = σ103 29 20 := by first | exact o123 20 (by decide) | exact congrFun (f123 29 (by decide)) 20
                    refine pe_goto (t := 151) d_M_plain_126 ?_
                    refine pe_rv d_M_plain_151 ?_
                    first
                    | (exfalso; omega)
                    | (have hA2 := pe_ra_f hA (fun b hb => (f8 b (by rintro rfl; simp at hb))) (fun j hj => (o8 j (by rintro rfl; simp at hj)))
                       exact ⟨hB, (fun b hb => (f123 b (by simp at hb ⊢; try omega)).trans ((f103 b (by simp at hb ⊢; try omega)).trans ((f83 b (by simp at hb ⊢; try omega)).trans ((f61 b (by simp at hb ⊢; try omega)).trans (rfl))))), (fun j hj => (o123 j (by simp at hj ⊢; try omega)).trans ((o103 j (by simp at hj ⊢; try omega)).trans ((o83 j (by simp at hj ⊢; try omega)).trans ((o61 j (by simp at hj ⊢; try omega)).trans (rfl))))), by rw [pe_kk_p hs.1, if_pos (by omega), pe_q_n1]; exact hA2, pe_rk_e hs.1 (by omega) (by omega)⟩)
                    | (have hA2 := pe_ra_f hA (fun b hb => ((f123 b (by rintro rfl; simp at hb)).trans ((f103 b (by rintro rfl; simp at hb)).trans ((f83 b (by rintro rfl; simp at hb)).trans (f61 b (by rintro rfl; simp at hb)))))) (fun j hj => ((o123 j (by rintro rfl; simp at hj)).trans ((o103 j (by rintro rfl; simp at hj)).trans ((o83 j (by rintro rfl; simp at hj)).trans (o61 j (by rintro rfl; simp at hj))))))
                       exact ⟨hB, (fun b hb => (f123 b (by simp at hb ⊢; try omega)).trans ((f103 b (by simp at hb ⊢; try omega)).trans ((f83 b (by simp at hb ⊢; try omega)).trans ((f61 b (by simp at hb ⊢; try omega)).trans (rfl))))), (fun j hj => (o123 j (by simp at hj ⊢; try omega)).trans ((o103 j (by simp at hj ⊢; try omega)).trans ((o83 j (by simp at hj ⊢; try omega)).trans ((o61 j (by simp at hj ⊢; try omega)).trans (rfl))))), by rw [pe_kk_p hs.1, if_pos (by omega), pe_q_n1]; exact hA2, pe_rk_l hs.1 (by omega) (by omega)⟩)
                    | (exact ⟨hB, (fun b hb => (f123 b (by simp at hb ⊢; try omega)).trans ((f103 b (by simp at hb ⊢; try omega)).trans ((f83 b (by simp at hb ⊢; try omega)).trans ((f61 b (by simp at hb ⊢; try omega)).trans (rfl))))), (fun j hj => (o123 j (by simp at hj ⊢; try omega)).trans ((o103 j (by simp at hj ⊢; try omega)).trans ((o83 j (by simp at hj ⊢; try omega)).trans ((o61 j (by simp at hj ⊢; try omega)).trans (rfl))))), by rw [pe_kk_p hs.1, if_neg (by omega), if_neg (by omega), if_neg (by omega), pe_q_c (by omega)]; exact x28, pe_rk_p hs.1 (by omega) (by omega)⟩)
                    | (exact ⟨hB, (fun b hb => (f123 b (by simp at hb ⊢; try omega)).trans ((f103 b (by simp at hb ⊢; try omega)).trans ((f83 b (by simp at hb ⊢; try omega)).trans ((f61 b (by simp at hb ⊢; try omega)).trans (rfl))))), (fun j hj => (o123 j (by simp at hj ⊢; try omega)).trans ((o103 j (by simp at hj ⊢; try omega)).trans ((o83 j (by simp at hj ⊢; try omega)).trans ((o61 j (by simp at hj ⊢; try omega)).trans (rfl))))), by rw [pe_kk_p hs.1, if_neg (by omega), if_pos (by omega), pe_q_c (by omega)]; exact x139, pe_rk_p hs.1 (by omega) (by omega)⟩)
                    | (exact ⟨hB, (fun b hb => (f123 b (by simp at hb ⊢; try omega)).trans ((f103 b (by simp at hb ⊢; try omega)).trans ((f83 b (by simp at hb ⊢; try omega)).trans ((f61 b (by simp at hb ⊢; try omega)).trans (rfl))))), (fun j hj => (o123 j (by simp at hj ⊢; try omega)).trans ((o103 j (by simp at hj ⊢; try omega)).trans ((o83 j (by simp at hj ⊢; try omega)).trans ((o61 j (by simp at hj ⊢; try omega)).trans (rfl))))), by rw [pe_kk_p hs.1, if_neg (by omega), if_neg (by omega), hs.2]; exact x148, pe_rk_p hs.1 (by omega) (by omega)⟩)
            · skip
              refine pe_iconst d_M_plain_56 ?_
              refine pe_goto (t := 61) d_M_plain_57 ?_
              refine pe_putiT f_M_184 g_11_15 d_M_plain_61 rfl rfl 15 rfl hB (by first | exact hB _ _ | exact hB0 _ _ | exact hBt _ _ | exact ⟨by omega, by omega⟩) (fun σ61 hB e61 o61 f61 => ?_)
              try have u61_0 : σ61 29 1 = σ 29 1 := by first | exact o61 1 (by decide) | exact congrFun (f61 29 (by decide)) 1
              try have u61_1 : σ61 29 2 = σ 29 2 := by first | exact o61 2 (by decide) | exact congrFun (f61 29 (by decide)) 2
              try have u61_2 : σ61 29 3 = σ 29 3 := by first | exact o61 3 (by decide) | exact congrFun (f61 29 (by decide)) 3
              try have u61_3 : σ61 29 5 = σ 29 5 := by first | exact o61 5 (by decide) | exact congrFun (f61 29 (by decide)) 5
              try have u61_4 : σ61 29 6 = σ 29 6 := by first | exact o61 6 (by decide) | exact congrFun (f61 29 (by decide)) 6
              try have u61_5 : σ61 29 7 = σ 29 7 := by first | exact o61 7 (by decide) | exact congrFun (f61 29 (by decide)) 7
              try have u61_6 : σ61 29 19 = σ 29 19 := by first | exact o61 19 (by decide) | exact congrFun (f61 29 (by decide)) 19
              try have u61_7 : σ61 29 21 = σ 29 21 := by first | exact o61 21 (by decide) | exact congrFun (f61 29 (by decide)) 21
              try have u61_8 : σ61 29 13 = σ 29 13 := by first | exact o61 13 (by decide) | exact congrFun (f61 29 (by decide)) 13
              try have u61_9 : σ61 29 14 = σ 29 14 := by first | exact o61 14 (by decide) | exact congrFun (f61 29 (by decide)) 14
              try have u61_10 : σ61 29 15 = σ 29 15 := by first | exact o61 15 (by decide) | exact congrFun (f61 29 (by decide)) 15
              try have u61_11 : σ61 29 16 = σ 29 16 := by first | exact o61 16 (by decide) | exact congrFun (f61 29 (by decide)) 16
              try have u61_12 : σ61 29 17 = σ 29 17 := by first | exact o61 17 (by decide) | exact congrFun (f61 29 (by decide)) 17
              try have u61_13 : σ61 29 18 = σ 29 18 := by first | exact o61 18 (by decide) | exact congrFun (f61 29 (by decide)) 18
              try have u61_14 : σ61 29 20 = σ 29 20 := by first | exact o61 20 (by decide) | exact congrFun (f61 29 (by decide)) 20
              refine pe_aload_n d_M_plain_64 rfl ?_
              refine pe_iload_n d_M_plain_65 rfl ?_
              refine pe_sipush d_M_plain_66 ?_
              refine pe_icmp_ge (t := 79) d_M_plain_69 (by first | exact hB _ _ | exact hB0 _ _ | exact hBt _ _ | exact ⟨by omega, by omega⟩) (by first | exact hB _ _ | exact hB0 _ _ | exact hBt _ _ | exact ⟨by omega, by omega⟩) (fun h69 => ?_) (fun h69 => ?_)
              · skip
                refine pe_iload_n d_M_plain_79 rfl ?_
                refine pe_bipush d_M_plain_80 ?_
                refine pe_iand d_M_plain_82 (pe_and 4 16 (by omega) (by omega)) ?_
                refine pe_putiT f_M_187 g_11_16 d_M_plain_83 rfl rfl 16 rfl hB (by first | exact hB _ _ | exact hB0 _ _ | exact hBt _ _ | exact ⟨by omega, by omega⟩) (fun σ83 hB e83 o83 f83 => ?_)
                try have u83_0 : σ83 29 1 = σ61 29 1 := by first | exact o83 1 (by decide) | exact congrFun (f83 29 (by decide)) 1
                try have u83_1 : σ83 29 2 = σ61 29 2 := by first | exact o83 2 (by decide) | exact congrFun (f83 29 (by decide)) 2
                try have u83_2 : σ83 29 3 = σ61 29 3 := by first | exact o83 3 (by decide) | exact congrFun (f83 29 (by decide)) 3
                try have u83_3 : σ83 29 5 = σ61 29 5 := by first | exact o83 5 (by decide) | exact congrFun (f83 29 (by decide)) 5
                try have u83_4 : σ83 29 6 = σ61 29 6 := by first | exact o83 6 (by decide) | exact congrFun (f83 29 (by decide)) 6
                try have u83_5 : σ83 29 7 = σ61 29 7 := by first | exact o83 7 (by decide) | exact congrFun (f83 29 (by decide)) 7
                try have u83_6 : σ83 29 19 = σ61 29 19 := by first | exact o83 19 (by decide) | exact congrFun (f83 29 (by decide)) 19
                try have u83_7 : σ83 29 21 = σ61 29 21 := by first | exact o83 21 (by decide) | exact congrFun (f83 29 (by decide)) 21
                try have u83_8 : σ83 29 13 = σ61 29 13 := by first | exact o83 13 (by decide) | exact congrFun (f83 29 (by decide)) 13
                try have u83_9 : σ83 29 14 = σ61 29 14 := by first | exact o83 14 (by decide) | exact congrFun (f83 29 (by decide)) 14
                try have u83_10 : σ83 29 15 = σ61 29 15 := by first | exact o83 15 (by decide) | exact congrFun (f83 29 (by decide)) 15
                try have u83_11 : σ83 29 16 = σ61 29 16 := by first | exact o83 16 (by decide) | exact congrFun (f83 29 (by decide)) 16
                try have u83_12 : σ83 29 17 = σ61 29 17 := by first | exact o83 17 (by decide) | exact congrFun (f83 29 (by decide)) 17
                try have u83_13 : σ83 29 18 = σ61 29 18 := by first | exact o83 18 (by decide) | exact congrFun (f83 29 (by decide)) 18
                try have u83_14 : σ83 29 20 = σ61 29 20 := by first | exact o83 20 (by decide) | exact congrFun (f83 29 (by decide)) 20
                refine pe_aload_n d_M_plain_86 rfl ?_
                refine pe_iload_n d_M_plain_87 rfl ?_
                refine pe_sipush d_M_plain_88 ?_
                refine pe_icmp_ne (t := 100) d_M_plain_91 (by first | exact hB _ _ | exact hB0 _ _ | exact hBt _ _ | exact ⟨by omega, by omega⟩) (by first | exact hB _ _ | exact hB0 _ _ | exact hBt _ _ | exact ⟨by omega, by omega⟩) (fun h91 => ?_) (fun h91 => ?_)
                · skip
                  refine pe_sipush d_M_plain_100 ?_
                  refine pe_putiT f_M_190 g_11_17 d_M_plain_103 rfl rfl 17 rfl hB (by first | exact hB _ _ | exact hB0 _ _ | exact hBt _ _ | exact ⟨by omega, by omega⟩) (fun σ103 hB e103 o103 f103 => ?_)
                  try have u103_0 : σ103 29 1 = σ83 29 1 := by first | exact o103 1 (by decide) | exact congrFun (f103 29 (by decide)) 1
                  try have u103_1 : σ103 29 2 = σ83 29 2 := by first | exact o103 2 (by decide) | exact congrFun (f103 29 (by decide)) 2
                  try have u103_2 : σ103 29 3 = σ83 29 3 := by first | exact o103 3 (by decide) | exact congrFun (f103 29 (by decide)) 3
                  try have u103_3 : σ103 29 5 = σ83 29 5 := by first | exact o103 5 (by decide) | exact congrFun (f103 29 (by decide)) 5
                  try have u103_4 : σ103 29 6 = σ83 29 6 := by first | exact o103 6 (by decide) | exact congrFun (f103 29 (by decide)) 6
                  try have u103_5 : σ103 29 7 = σ83 29 7 := by first | exact o103 7 (by decide) | exact congrFun (f103 29 (by decide)) 7
                  try have u103_6 : σ103 29 19 = σ83 29 19 := by first | exact o103 19 (by decide) | exact congrFun (f103 29 (by decide)) 19
                  try have u103_7 : σ103 29 21 = σ83 29 21 := by first | exact o103 21 (by decide) | exact congrFun (f103 29 (by decide)) 21
                  try have u103_8 : σ103 29 13 = σ83 29 13 := by first | exact o103 13 (by decide) | exact congrFun (f103 29 (by decide)) 13
                  try have u103_9 : σ103 29 14 = σ83 29 14 := by first | exact o103 14 (by decide) | exact congrFun (f103 29 (by decide)) 14
                  try have u103_10 : σ103 29 15 = σ83 29 15 := by first | exact o103 15 (by decide) | exact congrFun (f103 29 (by decide)) 15
                  try have u103_11 : σ103 29 16 = σ83 29 16 := by first | exact o103 16 (by decide) | exact congrFun (f103 29 (by decide)) 16
                  try have u103_12 : σ103 29 17 = σ83 29 17 := by first | exact o103 17 (by decide) | exact congrFun (f103 29 (by decide)) 17
                  try have u103_13 : σ103 29 18 = σ83 29 18 := by first | exact o103 18 (by decide) | exact congrFun (f103 29 (by decide)) 18
                  try have u103_14 : σ103 29 20 = σ83 29 20 := by first | exact o103 20 (by decide) | exact congrFun (f103 29 (by decide)) 20
                  refine pe_aload_n d_M_plain_106 rfl ?_
                  refine pe_iload_n d_M_plain_107 rfl ?_
                  refine pe_sipush d_M_plain_108 ?_
                  refine pe_icmp_ne (t := 120) d_M_plain_111 (by first | exact hB _ _ | exact hB0 _ _ | exact hBt _ _ | exact ⟨by omega, by omega⟩) (by first | exact hB _ _ | exact hB0 _ _ | exact hBt _ _ | exact ⟨by omega, by omega⟩) (fun h111 => ?_) (fun h111 => ?_)
                  · skip
                    refine pe_sipush d_M_plain_120 ?_
                    refine pe_putiT f_M_193 g_11_18 d_M_plain_123 rfl rfl 18 rfl hB (by first | exact hB _ _ | exact hB0 _ _ | exact hBt _ _ | exact ⟨by omega, by omega⟩) (fun σ123 hB e123 o123 f123 => ?_)
                    try have u123_0 : σ123 29 1 = σ103 29 1 := by first | exact o123 1 (by decide) | exact congrFun (f123 29 (by decide)) 1
                    try have u123_1 : σ123 29 2 = σ103 29 2 := by first | exact o123 2 (by decide) | exact congrFun (f123 29 (by decide)) 2
                    try have u123_2 : σ123 29 3 = σ103 29 3 := by first | exact o123 3 (by decide) | exact congrFun (f123 29 (by decide)) 3
                    try have u123_3 : σ123 29 5 = σ103 29 5 := by first | exact o123 5 (by decide) | exact congrFun (f123 29 (by decide)) 5
                    try have u123_4 : σ123 29 6 = σ103 29 6 := by first | exact o123 6 (by decide) | exact congrFun (f123 29 (by decide)) 6
                    try have u123_5 : σ123 29 7 = σ103 29 7 := by first | exact o123 7 (by decide) | exact congrFun (f123 29 (by decide)) 7
                    try have u123_6 : σ123 29 19 = σ103 29 19 := by first | exact o123 19 (by decide) | exact congrFun (f123 29 (by decide)) 19
                    try have u123_7 : σ123 29 21 = σ103 29 21 := by first | exact o123 21 (by decide) | exact congrFun (f123 29 (by decide)) 21
                    try have u123_8 : σ123 29 13 = σ103 29 13 := by first | exact o123 13 (by decide) | exact congrFun (f123 29 (by decide)) 13
                    try have u123_9 : σ123 29 14 = σ103 29 14 := by first | exact o123 14 (by decide) | exact congrFun (f123 29 (by decide)) 14
                    try have u123_10 : σ123 29 15 = σ103 29 15 := by first | exact o123 15 (by decide) | exact congrFun (f123 29 (by decide)) 15
                    try have u123_11 : σ123 29 16 = σ103 29 16 := by first | exact o123 16 (by decide) | exact congrFun (f123 29 (by decide)) 16
                    try have u123_12 : σ123 29 17 = σ103 29 17 := by first | exact o123 17 (by decide) | exact congrFun (f123 29 (by decide)) 17
                    try have u123_13 : σ123 29 18 = σ103 29 18 := by first | exact o123 18 (by decide) | exact congrFun (f123 29 (by decide)) 18
                    try have u123_14 : σ123 29 20 = σ103 29 20 := by first | exact o123 20 (by decide) | exact congrFun (f123 29 (by decide)) 20
                    refine pe_goto (t := 151) d_M_plain_126 ?_
                    refine pe_rv d_M_plain_151 ?_
                    first
                    | (exfalso; omega)
                    | (have hA2 := pe_ra_f hA (fun b hb => (f8 b (by rintro rfl; simp at hb))) (fun j hj => (o8 j (by rintro rfl; simp at hj)))
                       exact ⟨hB, (fun b hb => (f123 b (by simp at hb ⊢; try omega)).trans ((f103 b (by simp at hb ⊢; try omega)).trans ((f83 b (by simp at hb ⊢; try omega)).trans ((f61 b (by simp at hb ⊢; try omega)).trans (rfl))))), (fun j hj => (o123 j (by simp at hj ⊢; try omega)).trans ((o103 j (by simp at hj ⊢; try omega)).trans ((o83 j (by simp at hj ⊢; try omega)).trans ((o61 j (by simp at hj ⊢; try omega)).trans (rfl))))), by rw [pe_kk_p hs.1, if_pos (by omega), pe_q_n1]; exact hA2, pe_rk_e hs.1 (by omega) (by omega)⟩)
                    | (have hA2 := pe_ra_f hA (fun b hb => ((f123 b (by rintro rfl; simp at hb)).trans ((f103 b (by rintro rfl; simp at hb)).trans ((f83 b (by rintro rfl; simp at hb)).trans (f61 b (by rintro rfl; simp at hb)))))) (fun j hj => ((o123 j (by rintro rfl; simp at hj)).trans ((o103 j (by rintro rfl; simp at hj)).trans ((o83 j (by rintro rfl; simp at hj)).trans (o61 j (by rintro rfl; simp at hj))))))
                       exact ⟨hB, (fun b hb => (f123 b (by simp at hb ⊢; try omega)).trans ((f103 b (by simp at hb ⊢; try omega)).trans ((f83 b (by simp at hb ⊢; try omega)).trans ((f61 b (by simp at hb ⊢; try omega)).trans (rfl))))), (fun j hj => (o123 j (by simp at hj ⊢; try omega)).trans ((o103 j (by simp at hj ⊢; try omega)).trans ((o83 j (by simp at hj ⊢; try omega)).trans ((o61 j (by simp at hj ⊢; try omega)).trans (rfl))))), by rw [pe_kk_p hs.1, if_pos (by omega), pe_q_n1]; exact hA2, pe_rk_l hs.1 (by omega) (by omega)⟩)
                    | (exact ⟨hB, (fun b hb => (f123 b (by simp at hb ⊢; try omega)).trans ((f103 b (by simp at hb ⊢; try omega)).trans ((f83 b (by simp at hb ⊢; try omega)).trans ((f61 b (by simp at hb ⊢; try omega)).trans (rfl))))), (fun j hj => (o123 j (by simp at hj ⊢; try omega)).trans ((o103 j (by simp at hj ⊢; try omega)).trans ((o83 j (by simp at hj ⊢; try omega)).trans ((o61 j (by simp at hj ⊢; try omega)).trans (rfl))))), by rw [pe_kk_p hs.1, if_neg (by omega), if_neg (by omega), if_neg (by omega), pe_q_c (by omega)]; exact x28, pe_rk_p hs.1 (by omega) (by omega)⟩)
                    | (exact ⟨hB, (fun b hb => (f123 b (by simp at hb ⊢; try omega)).trans ((f103 b (by simp at hb ⊢; try omega)).trans ((f83 b (by simp at hb ⊢; try omega)).trans ((f61 b (by simp at hb ⊢; try omega)).trans (rfl))))), (fun j hj => (o123 j (by simp at hj ⊢; try omega)).trans ((o103 j (by simp at hj ⊢; try omega)).trans ((o83 j (by simp at hj ⊢; try omega)).trans ((o61 j (by simp at hj ⊢; try omega)).trans (rfl))))), by rw [pe_kk_p hs.1, if_neg (by omega), if_pos (by omega), pe_q_c (by omega)]; exact x139, pe_rk_p hs.1 (by omega) (by omega)⟩)
                    | (exact ⟨hB, (fun b hb => (f123 b (by simp at hb ⊢; try omega)).trans ((f103 b (by simp at hb ⊢; try omega)).trans ((f83 b (by simp at hb ⊢; try omega)).trans ((f61 b (by simp at hb ⊢; try omega)).trans (rfl))))), (fun j hj => (o123 j (by simp at hj ⊢; try omega)).trans ((o103 j (by simp at hj ⊢; try omega)).trans ((o83 j (by simp at hj ⊢; try omega)).trans ((o61 j (by simp at hj ⊢; try omega)).trans (rfl))))), by rw [pe_kk_p hs.1, if_neg (by omega), if_neg (by omega), hs.2]; exact x148, pe_rk_p hs.1 (by omega) (by omega)⟩)
                  · skip
                    refine pe_sipush d_M_plain_114 ?_
                    refine pe_goto (t := 123) d_M_plain_117 ?_
                    refine pe_putiT f_M_193 g_11_18 d_M_plain_123 rfl rfl 18 rfl hB (by first | exact hB _ _ | exact hB0 _ _ | exact hBt _ _ | exact ⟨by omega, by omega⟩) (fun σ123 hB e123 o123 f123 => ?_)
                    try have u123_0 : σ123 29 1 = σ103 29 1 := by first | exact o123 1 (by decide) | exact congrFun (f123 29 (by decide)) 1
                    try have u123_1 : σ123 29 2 = σ103 29 2 := by first | exact o123 2 (by decide) | exact congrFun (f123 29 (by decide)) 2
                    try have u123_2 : σ123 29 3 = σ103 29 3 := by first | exact o123 3 (by decide) | exact congrFun (f123 29 (by decide)) 3
                    try have u123_3 : σ123 29 5 = σ103 29 5 := by first | exact o123 5 (by decide) | exact congrFun (f123 29 (by decide)) 5
                    try have u123_4 : σ123 29 6 = σ103 29 6 := by first | exact o123 6 (by decide) | exact congrFun (f123 29 (by decide)) 6
                    try have u123_5 : σ123 29 7 = σ103 29 7 := by first | exact o123 7 (by decide) | exact congrFun (f123 29 (by decide)) 7
                    try have u123_6 : σ123 29 19 = σ103 29 19 := by first | exact o123 19 (by decide) | exact congrFun (f123 29 (by decide)) 19
                    try have u123_7 : σ123 29 21 = σ103 29 21 := by first | exact o123 21 (by decide) | exact congrFun (f123 29 (by decide)) 21
                    try have u123_8 : σ123 29 13 = σ103 29 13 := by first | exact o123 13 (by decide) | exact congrFun (f123 29 (by decide)) 13
                    try have u123_9 : σ123 29 14 = σ103 29 14 := by first | exact o123 14 (by decide) | exact congrFun (f123 29 (by decide)) 14
                    try have u123_10 : σ123 29 15 = σ103 29 15 := by first | exact o123 15 (by decide) | exact congrFun (f123 29 (by decide)) 15
                    try have u123_11 : σ123 29 16 = σ103 29 16 := by first | exact o123 16 (by decide) | exact congrFun (f123 29 (by decide)) 16
                    try have u123_12 : σ123 29 17 = σ103 29 17 := by first | exact o123 17 (by decide) | exact congrFun (f123 29 (by decide)) 17
                    try have u123_13 : σ123 29 18 = σ103 29 18 := by first | exact o123 18 (by decide) | exact congrFun (f123 29 (by decide)) 18
                    try have u123_14 : σ123 29 20 = σ103 29 20 := by first | exact o123 20 (by decide) | exact congrFun (f123 29 (by decide)) 20
                    refine pe_goto (t := 151) d_M_plain_126 ?_
                    refine pe_rv d_M_plain_151 ?_
                    first
                    | (exfalso; omega)
                    | (have hA2 := pe_ra_f hA (fun b hb => (f8 b (by rintro rfl; simp at hb))) (fun j hj => (o8 j (by rintro rfl; simp at hj)))
                       exact ⟨hB, (fun b hb => (f123 b (by simp at hb ⊢; try omega)).trans ((f103 b (by simp at hb ⊢; try omega)).trans ((f83 b (by simp at hb ⊢; try omega)).trans ((f61 b (by simp at hb ⊢; try omega)).trans (rfl))))), (fun j hj => (o123 j (by simp at hj ⊢; try omega)).trans ((o103 j (by simp at hj ⊢; try omega)).trans ((o83 j (by simp at hj ⊢; try omega)).trans ((o61 j (by simp at hj ⊢; try omega)).trans (rfl))))), by rw [pe_kk_p hs.1, if_pos (by omega), pe_q_n1]; exact hA2, pe_rk_e hs.1 (by omega) (by omega)⟩)
                    | (have hA2 := pe_ra_f hA (fun b hb => ((f123 b (by rintro rfl; simp at hb)).trans ((f103 b (by rintro rfl; simp at hb)).trans ((f83 b (by rintro rfl; simp at hb)).trans (f61 b (by rintro rfl; simp at hb)))))) (fun j hj => ((o123 j (by rintro rfl; simp at hj)).trans ((o103 j (by rintro rfl; simp at hj)).trans ((o83 j (by rintro rfl; simp at hj)).trans (o61 j (by rintro rfl; simp at hj))))))
                       exact ⟨hB, (fun b hb => (f123 b (by simp at hb ⊢; try omega)).trans ((f103 b (by simp at hb ⊢; try omega)).trans ((f83 b (by simp at hb ⊢; try omega)).trans ((f61 b (by simp at hb ⊢; try omega)).trans (rfl))))), (fun j hj => (o123 j (by simp at hj ⊢; try omega)).trans ((o103 j (by simp at hj ⊢; try omega)).trans ((o83 j (by simp at hj ⊢; try omega)).trans ((o61 j (by simp at hj ⊢; try omega)).trans (rfl))))), by rw [pe_kk_p hs.1, if_pos (by omega), pe_q_n1]; exact hA2, pe_rk_l hs.1 (by omega) (by omega)⟩)
                    | (exact ⟨hB, (fun b hb => (f123 b (by simp at hb ⊢; try omega)).trans ((f103 b (by simp at hb ⊢; try omega)).trans ((f83 b (by simp at hb ⊢; try omega)).trans ((f61 b (by simp at hb ⊢; try omega)).trans (rfl))))), (fun j hj => (o123 j (by simp at hj ⊢; try omega)).trans ((o103 j (by simp at hj ⊢; try omega)).trans ((o83 j (by simp at hj ⊢; try omega)).trans ((o61 j (by simp at hj ⊢; try omega)).trans (rfl))))), by rw [pe_kk_p hs.1, if_neg (by omega), if_neg (by omega), if_neg (by omega), pe_q_c (by omega)]; exact x28, pe_rk_p hs.1 (by omega) (by omega)⟩)
                    | (exact ⟨hB, (fun b hb => (f123 b (by simp at hb ⊢; try omega)).trans ((f103 b (by simp at hb ⊢; try omega)).trans ((f83 b (by simp at hb ⊢; try omega)).trans ((f61 b (by simp at hb ⊢; try omega)).trans (rfl))))), (fun j hj => (o123 j (by simp at hj ⊢; try omega)).trans ((o103 j (by simp at hj ⊢; try omega)).trans ((o83 j (by simp at hj ⊢; try omega)).trans ((o61 j (by simp at hj ⊢; try omega)).trans (rfl))))), by rw [pe_kk_p hs.1, if_neg (by omega), if_pos (by omega), pe_q_c (by omega)]; exact x139, pe_rk_p hs.1 (by omega) (by omega)⟩)
                    | (exact ⟨hB, (fun b hb => (f123 b (by simp at hb ⊢; try omega)).trans ((f103 b (by simp at hb ⊢; try omega)).trans ((f83 b (by simp at hb ⊢; try omega)).trans ((f61 b (by simp at hb ⊢; try omega)).trans (rfl))))), (fun j hj => (o123 j (by simp at hj ⊢; try omega)).trans ((o103 j (by simp at hj ⊢; try omega)).trans ((o83 j (by simp at hj ⊢; try omega)).trans ((o61 j (by simp at hj ⊢; try omega)).trans (rfl))))), by rw [pe_kk_p hs.1, if_neg (by omega), if_neg (by omega), hs.2]; exact x148, pe_rk_p hs.1 (by omega) (by omega)⟩)
                · skip
                  refine pe_sipush d_M_plain_94 ?_
                  refine pe_goto (t := 103) d_M_plain_97 ?_
                  refine pe_putiT f_M_190 g_11_17 d_M_plain_103 rfl rfl 17 rfl hB (by first | exact hB _ _ | exact hB0 _ _ | exact hBt _ _ | exact ⟨by omega, by omega⟩) (fun σ103 hB e103 o103 f103 => ?_)
                  try have u103_0 : σ103 29 1 = σ83 29 1 := by first | exact o103 1 (by decide) | exact congrFun (f103 29 (by decide)) 1
                  try have u103_1 : σ103 29 2 = σ83 29 2 := by first | exact o103 2 (by decide) | exact congrFun (f103 29 (by decide)) 2
                  try have u103_2 : σ103 29 3 = σ83 29 3 := by first | exact o103 3 (by decide) | exact congrFun (f103 29 (by decide)) 3
                  try have u103_3 : σ103 29 5 = σ83 29 5 := by first | exact o103 5 (by decide) | exact congrFun (f103 29 (by decide)) 5
                  try have u103_4 : σ103 29 6 = σ83 29 6 := by first | exact o103 6 (by decide) | exact congrFun (f103 29 (by decide)) 6
                  try have u103_5 : σ103 29 7 = σ83 29 7 := by first | exact o103 7 (by decide) | exact congrFun (f103 29 (by decide)) 7
                  try have u103_6 : σ103 29 19 = σ83 29 19 := by first | exact o103 19 (by decide) | exact congrFun (f103 29 (by decide)) 19
                  try have u103_7 : σ103 29 21 = σ83 29 21 := by first | exact o103 21 (by decide) | exact congrFun (f103 29 (by decide)) 21
                  try have u103_8 : σ103 29 13 = σ83 29 13 := by first | exact o103 13 (by decide) | exact congrFun (f103 29 (by decide)) 13
                  try have u103_9 : σ103 29 14 = σ83 29 14 := by first | exact o103 14 (by decide) | exact congrFun (f103 29 (by decide)) 14
                  try have u103_10 : σ103 29 15 = σ83 29 15 := by first | exact o103 15 (by decide) | exact congrFun (f103 29 (by decide)) 15
                  try have u103_11 : σ103 29 16 = σ83 29 16 := by first | exact o103 16 (by decide) | exact congrFun (f103 29 (by decide)) 16
                  try have u103_12 : σ103 29 17 = σ83 29 17 := by first | exact o103 17 (by decide) | exact congrFun (f103 29 (by decide)) 17
                  try have u103_13 : σ103 29 18 = σ83 29 18 := by first | exact o103 18 (by decide) | exact congrFun (f103 29 (by decide)) 18
                  try have u103_14 : σ103 29 20 = σ83 29 20 := by first | exact o103 20 (by decide) | exact congrFun (f103 29 (by decide)) 20
                  refine pe_aload_n d_M_plain_106 rfl ?_
                  refine pe_iload_n d_M_plain_107 rfl ?_
                  refine pe_sipush d_M_plain_108 ?_
                  refine pe_icmp_ne (t := 120) d_M_plain_111 (by first | exact hB _ _ | exact hB0 _ _ | exact hBt _ _ | exact ⟨by omega, by omega⟩) (by first | exact hB _ _ | exact hB0 _ _ | exact hBt _ _ | exact ⟨by omega, by omega⟩) (fun h111 => ?_) (fun h111 => ?_)
                  · skip
                    refine pe_sipush d_M_plain_120 ?_
                    refine pe_putiT f_M_193 g_11_18 d_M_plain_123 rfl rfl 18 rfl hB (by first | exact hB _ _ | exact hB0 _ _ | exact hBt _ _ | exact ⟨by omega, by omega⟩) (fun σ123 hB e123 o123 f123 => ?_)
                    try have u123_0 : σ123 29 1 = σ103 29 1 := by first | exact o123 1 (by decide) | exact congrFun (f123 29 (by decide)) 1
                    try have u123_1 : σ123 29 2 = σ103 29 2 := by first | exact o123 2 (by decide) | exact congrFun (f123 29 (by decide)) 2
                    try have u123_2 : σ123 29 3 = σ103 29 3 := by first | exact o123 3 (by decide) | exact congrFun (f123 29 (by decide)) 3
                    try have u123_3 : σ123 29 5 = σ103 29 5 := by first | exact o123 5 (by decide) | exact congrFun (f123 29 (by decide)) 5
                    try have u123_4 : σ123 29 6 = σ103 29 6 := by first | exact o123 6 (by decide) | exact congrFun (f123 29 (by decide)) 6
                    try have u123_5 : σ123 29 7 = σ103 29 7 := by first | exact o123 7 (by decide) | exact congrFun (f123 29 (by decide)) 7
                    try have u123_6 : σ123 29 19 = σ103 29 19 := by first | exact o123 19 (by decide) | exact congrFun (f123 29 (by decide)) 19
                    try have u123_7 : σ123 29 21 = σ103 29 21 := by first | exact o123 21 (by decide) | exact congrFun (f123 29 (by decide)) 21
                    try have u123_8 : σ123 29 13 = σ103 29 13 := by first | exact o123 13 (by decide) | exact congrFun (f123 29 (by decide)) 13
                    try have u123_9 : σ123 29 14 = σ103 29 14 := by first | exact o123 14 (by decide) | exact congrFun (f123 29 (by decide)) 14
                    try have u123_10 : σ123 29 15 = σ103 29 15 := by first | exact o123 15 (by decide) | exact congrFun (f123 29 (by decide)) 15
                    try have u123_11 : σ123 29 16 = σ103 29 16 := by first | exact o123 16 (by decide) | exact congrFun (f123 29 (by decide)) 16
                    try have u123_12 : σ123 29 17 = σ103 29 17 := by first | exact o123 17 (by decide) | exact congrFun (f123 29 (by decide)) 17
                    try have u123_13 : σ123 29 18 = σ103 29 18 := by first | exact o123 18 (by decide) | exact congrFun (f123 29 (by decide)) 18
                    try have u123_14 : σ123 29 20 = σ103 29 20 := by first | exact o123 20 (by decide) | exact congrFun (f123 29 (by decide)) 20
                    refine pe_goto (t := 151) d_M_plain_126 ?_
                    refine pe_rv d_M_plain_151 ?_
                    first
                    | (exfalso; omega)
                    | (have hA2 := pe_ra_f hA (fun b hb => (f8 b (by rintro rfl; simp at hb))) (fun j hj => (o8 j (by rintro rfl; simp at hj)))
                       exact ⟨hB, (fun b hb => (f123 b (by simp at hb ⊢; try omega)).trans ((f103 b (by simp at hb ⊢; try omega)).trans ((f83 b (by simp at hb ⊢; try omega)).trans ((f61 b (by simp at hb ⊢; try omega)).trans (rfl))))), (fun j hj => (o123 j (by simp at hj ⊢; try omega)).trans ((o103 j (by simp at hj ⊢; try omega)).trans ((o83 j (by simp at hj ⊢; try omega)).trans ((o61 j (by simp at hj ⊢; try omega)).trans (rfl))))), by rw [pe_kk_p hs.1, if_pos (by omega), pe_q_n1]; exact hA2, pe_rk_e hs.1 (by omega) (by omega)⟩)
                    | (have hA2 := pe_ra_f hA (fun b hb => ((f123 b (by rintro rfl; simp at hb)).trans ((f103 b (by rintro rfl; simp at hb)).trans ((f83 b (by rintro rfl; simp at hb)).trans (f61 b (by rintro rfl; simp at hb)))))) (fun j hj => ((o123 j (by rintro rfl; simp at hj)).trans ((o103 j (by rintro rfl; simp at hj)).trans ((o83 j (by rintro rfl; simp at hj)).trans (o61 j (by rintro rfl; simp at hj))))))
                       exact ⟨hB, (fun b hb => (f123 b (by simp at hb ⊢; try omega)).trans ((f103 b (by simp at hb ⊢; try omega)).trans ((f83 b (by simp at hb ⊢; try omega)).trans ((f61 b (by simp at hb ⊢; try omega)).trans (rfl))))), (fun j hj => (o123 j (by simp at hj ⊢; try omega)).trans ((o103 j (by simp at hj ⊢; try omega)).trans ((o83 j (by simp at hj ⊢; try omega)).trans ((o61 j (by simp at hj ⊢; try omega)).trans (rfl))))), by rw [pe_kk_p hs.1, if_pos (by omega), pe_q_n1]; exact hA2, pe_rk_l hs.1 (by omega) (by omega)⟩)
                    | (exact ⟨hB, (fun b hb => (f123 b (by simp at hb ⊢; try omega)).trans ((f103 b (by simp at hb ⊢; try omega)).trans ((f83 b (by simp at hb ⊢; try omega)).trans ((f61 b (by simp at hb ⊢; try omega)).trans (rfl))))), (fun j hj => (o123 j (by simp at hj ⊢; try omega)).trans ((o103 j (by simp at hj ⊢; try omega)).trans ((o83 j (by simp at hj ⊢; try omega)).trans ((o61 j (by simp at hj ⊢; try omega)).trans (rfl))))), by rw [pe_kk_p hs.1, if_neg (by omega), if_neg (by omega), if_neg (by omega), pe_q_c (by omega)]; exact x28, pe_rk_p hs.1 (by omega) (by omega)⟩)
                    | (exact ⟨hB, (fun b hb => (f123 b (by simp at hb ⊢; try omega)).trans ((f103 b (by simp at hb ⊢; try omega)).trans ((f83 b (by simp at hb ⊢; try omega)).trans ((f61 b (by simp at hb ⊢; try omega)).trans (rfl))))), (fun j hj => (o123 j (by simp at hj ⊢; try omega)).trans ((o103 j (by simp at hj ⊢; try omega)).trans ((o83 j (by simp at hj ⊢; try omega)).trans ((o61 j (by simp at hj ⊢; try omega)).trans (rfl))))), by rw [pe_kk_p hs.1, if_neg (by omega), if_pos (by omega), pe_q_c (by omega)]; exact x139, pe_rk_p hs.1 (by omega) (by omega)⟩)
                    | (exact ⟨hB, (fun b hb => (f123 b (by simp at hb ⊢; try omega)).trans ((f103 b (by simp at hb ⊢; try omega)).trans ((f83 b (by simp at hb ⊢; try omega)).trans ((f61 b (by simp at hb ⊢; try omega)).trans (rfl))))), (fun j hj => (o123 j (by simp at hj ⊢; try omega)).trans ((o103 j (by simp at hj ⊢; try omega)).trans ((o83 j (by simp at hj ⊢; try omega)).trans ((o61 j (by simp at hj ⊢; try omega)).trans (rfl))))), by rw [pe_kk_p hs.1, if_neg (by omega), if_neg (by omega), hs.2]; exact x148, pe_rk_p hs.1 (by omega) (by omega)⟩)
                  · skip
                    refine pe_sipush d_M_plain_114 ?_
                    refine pe_goto (t := 123) d_M_plain_117 ?_
                    refine pe_putiT f_M_193 g_11_18 d_M_plain_123 rfl rfl 18 rfl hB (by first | exact hB _ _ | exact hB0 _ _ | exact hBt _ _ | exact ⟨by omega, by omega⟩) (fun σ123 hB e123 o123 f123 => ?_)
                    try have u123_0 : σ123 29 1 = σ103 29 1 := by first | exact o123 1 (by decide) | exact congrFun (f123 29 (by decide)) 1
                    try have u123_1 : σ123 29 2 = σ103 29 2 := by first | exact o123 2 (by decide) | exact congrFun (f123 29 (by decide)) 2
                    try have u123_2 : σ123 29 3 = σ103 29 3 := by first | exact o123 3 (by decide) | exact congrFun (f123 29 (by decide)) 3
                    try have u123_3 : σ123 29 5 = σ103 29 5 := by first | exact o123 5 (by decide) | exact congrFun (f123 29 (by decide)) 5
                    try have u123_4 : σ123 29 6 = σ103 29 6 := by first | exact o123 6 (by decide) | exact congrFun (f123 29 (by decide)) 6
                    try have u123_5 : σ123 29 7 = σ103 29 7 := by first | exact o123 7 (by decide) | exact congrFun (f123 29 (by decide)) 7
                    try have u123_6 : σ123 29 19 = σ103 29 19 := by first | exact o123 19 (by decide) | exact congrFun (f123 29 (by decide)) 19
                    try have u123_7 : σ123 29 21 = σ103 29 21 := by first | exact o123 21 (by decide) | exact congrFun (f123 29 (by decide)) 21
                    try have u123_8 : σ123 29 13 = σ103 29 13 := by first | exact o123 13 (by decide) | exact congrFun (f123 29 (by decide)) 13
                    try have u123_9 : σ123 29 14 = σ103 29 14 := by first | exact o123 14 (by decide) | exact congrFun (f123 29 (by decide)) 14
                    try have u123_10 : σ123 29 15 = σ103 29 15 := by first | exact o123 15 (by decide) | exact congrFun (f123 29 (by decide)) 15
                    try have u123_11 : σ123 29 16 = σ103 29 16 := by first | exact o123 16 (by decide) | exact congrFun (f123 29 (by decide)) 16
                    try have u123_12 : σ123 29 17 = σ103 29 17 := by first | exact o123 17 (by decide) | exact congrFun (f123 29 (by decide)) 17
                    try have u123_13 : σ123 29 18 = σ103 29 18 := by first | exact o123 18 (by decide) | exact congrFun (f123 29 (by decide)) 18
                    try have u123_14 : σ123 29 20 = σ103 29 20 := by first | exact o123 20 (by decide) | exact congrFun (f123 29 (by decide)) 20
                    refine pe_goto (t := 151) d_M_plain_126 ?_
                    refine pe_rv d_M_plain_151 ?_
                    first
                    | (exfalso; omega)
                    | (have hA2 := pe_ra_f hA (fun b hb => (f8 b (by rintro rfl; simp at hb))) (fun j hj => (o8 j (by rintro rfl; simp at hj)))
                       exact ⟨hB, (fun b hb => (f123 b (by simp at hb ⊢; try omega)).trans ((f103 b (by simp at hb ⊢; try omega)).trans ((f83 b (by simp at hb ⊢; try omega)).trans ((f61 b (by simp at hb ⊢; try omega)).trans (rfl))))), (fun j hj => (o123 j (by simp at hj ⊢; try omega)).trans ((o103 j (by simp at hj ⊢; try omega)).trans ((o83 j (by simp at hj ⊢; try omega)).trans ((o61 j (by simp at hj ⊢; try omega)).trans (rfl))))), by rw [pe_kk_p hs.1, if_pos (by omega), pe_q_n1]; exact hA2, pe_rk_e hs.1 (by omega) (by omega)⟩)
                    | (have hA2 := pe_ra_f hA (fun b hb => ((f123 b (by rintro rfl; simp at hb)).trans ((f103 b (by rintro rfl; simp at hb)).trans ((f83 b (by rintro rfl; simp at hb)).trans (f61 b (by rintro rfl; simp at hb)))))) (fun j hj => ((o123 j (by rintro rfl; simp at hj)).trans ((o103 j (by rintro rfl; simp at hj)).trans ((o83 j (by rintro rfl; simp at hj)).trans (o61 j (by rintro rfl; simp at hj))))))
                       exact ⟨hB, (fun b hb => (f123 b (by simp at hb ⊢; try omega)).trans ((f103 b (by simp at hb ⊢; try omega)).trans ((f83 b (by simp at hb ⊢; try omega)).trans ((f61 b (by simp at hb ⊢; try omega)).trans (rfl))))), (fun j hj => (o123 j (by simp at hj ⊢; try omega)).trans ((o103 j (by simp at hj ⊢; try omega)).trans ((o83 j (by simp at hj ⊢; try omega)).trans ((o61 j (by simp at hj ⊢; try omega)).trans (rfl))))), by rw [pe_kk_p hs.1, if_pos (by omega), pe_q_n1]; exact hA2, pe_rk_l hs.1 (by omega) (by omega)⟩)
                    | (exact ⟨hB, (fun b hb => (f123 b (by simp at hb ⊢; try omega)).trans ((f103 b (by simp at hb ⊢; try omega)).trans ((f83 b (by simp at hb ⊢; try omega)).trans ((f61 b (by simp at hb ⊢; try omega)).trans (rfl))))), (fun j hj => (o123 j (by simp at hj ⊢; try omega)).trans ((o103 j (by simp at hj ⊢; try omega)).trans ((o83 j (by simp at hj ⊢; try omega)).trans ((o61 j (by simp at hj ⊢; try omega)).trans (rfl))))), by rw [pe_kk_p hs.1, if_neg (by omega), if_neg (by omega), if_neg (by omega), pe_q_c (by omega)]; exact x28, pe_rk_p hs.1 (by omega) (by omega)⟩)
                    | (exact ⟨hB, (fun b hb => (f123 b (by simp at hb ⊢; try omega)).trans ((f103 b (by simp at hb ⊢; try omega)).trans ((f83 b (by simp at hb ⊢; try omega)).trans ((f61 b (by simp at hb ⊢; try omega)).trans (rfl))))), (fun j hj => (o123 j (by simp at hj ⊢; try omega)).trans ((o103 j (by simp at hj ⊢; try omega)).trans ((o83 j (by simp at hj ⊢; try omega)).trans ((o61 j (by simp at hj ⊢; try omega)).trans (rfl))))), by rw [pe_kk_p hs.1, if_neg (by omega), if_pos (by omega), pe_q_c (by omega)]; exact x139, pe_rk_p hs.1 (by omega) (by omega)⟩)
                    | (exact ⟨hB, (fun b hb => (f123 b (by simp at hb ⊢; try omega)).trans ((f103 b (by simp at hb ⊢; try omega)).trans ((f83 b (by simp at hb ⊢; try omega)).trans ((f61 b (by simp at hb ⊢; try omega)).trans (rfl))))), (fun j hj => (o123 j (by simp at hj ⊢; try omega)).trans ((o103 j (by simp at hj ⊢; try omega)).trans ((o83 j (by simp at hj ⊢; try omega)).trans ((o61 j (by simp at hj ⊢; try omega)).trans (rfl))))), by rw [pe_kk_p hs.1, if_neg (by omega), if_neg (by omega), hs.2]; exact x148, pe_rk_p hs.1 (by omega) (by omega)⟩)
              · skip
                refine pe_iload_n d_M_plain_72 rfl ?_
                refine pe_bipush d_M_plain_73 ?_
                refine pe_iand d_M_plain_75 (pe_and 5 32 (by omega) (by omega)) ?_
                refine pe_goto (t := 83) d_M_plain_76 ?_
                refine pe_putiT f_M_187 g_11_16 d_M_plain_83 rfl rfl 16 rfl hB (by first | exact hB _ _ | exact hB0 _ _ | exact hBt _ _ | exact ⟨by omega, by omega⟩) (fun σ83 hB e83 o83 f83 => ?_)
                try have u83_0 : σ83 29 1 = σ61 29 1 := by first | exact o83 1 (by decide) | exact congrFun (f83 29 (by decide)) 1
                try have u83_1 : σ83 29 2 = σ61 29 2 := by first | exact o83 2 (by decide) | exact congrFun (f83 29 (by decide)) 2
                try have u83_2 : σ83 29 3 = σ61 29 3 := by first | exact o83 3 (by decide) | exact congrFun (f83 29 (by decide)) 3
                try have u83_3 : σ83 29 5 = σ61 29 5 := by first | exact o83 5 (by decide) | exact congrFun (f83 29 (by decide)) 5
                try have u83_4 : σ83 29 6 = σ61 29 6 := by first | exact o83 6 (by decide) | exact congrFun (f83 29 (by decide)) 6
                try have u83_5 : σ83 29 7 = σ61 29 7 := by first | exact o83 7 (by decide) | exact congrFun (f83 29 (by decide)) 7
                try have u83_6 : σ83 29 19 = σ61 29 19 := by first | exact o83 19 (by decide) | exact congrFun (f83 29 (by decide)) 19
                try have u83_7 : σ83 29 21 = σ61 29 21 := by first | exact o83 21 (by decide) | exact congrFun (f83 29 (by decide)) 21
                try have u83_8 : σ83 29 13 = σ61 29 13 := by first | exact o83 13 (by decide) | exact congrFun (f83 29 (by decide)) 13
                try have u83_9 : σ83 29 14 = σ61 29 14 := by first | exact o83 14 (by decide) | exact congrFun (f83 29 (by decide)) 14
                try have u83_10 : σ83 29 15 = σ61 29 15 := by first | exact o83 15 (by decide) | exact congrFun (f83 29 (by decide)) 15
                try have u83_11 : σ83 29 16 = σ61 29 16 := by first | exact o83 16 (by decide) | exact congrFun (f83 29 (by decide)) 16
                try have u83_12 : σ83 29 17 = σ61 29 17 := by first | exact o83 17 (by decide) | exact congrFun (f83 29 (by decide)) 17
                try have u83_13 : σ83 29 18 = σ61 29 18 := by first | exact o83 18 (by decide) | exact congrFun (f83 29 (by decide)) 18
                try have u83_14 : σ83 29 20 = σ61 29 20 := by first | exact o83 20 (by decide) | exact congrFun (f83 29 (by decide)) 20
                refine pe_aload_n d_M_plain_86 rfl ?_
                refine pe_iload_n d_M_plain_87 rfl ?_
                refine pe_sipush d_M_plain_88 ?_
                refine pe_icmp_ne (t := 100) d_M_plain_91 (by first | exact hB _ _ | exact hB0 _ _ | exact hBt _ _ | exact ⟨by omega, by omega⟩) (by first | exact hB _ _ | exact hB0 _ _ | exact hBt _ _ | exact ⟨by omega, by omega⟩) (fun h91 => ?_) (fun h91 => ?_)
                · skip
                  refine pe_sipush d_M_plain_100 ?_
                  refine pe_putiT f_M_190 g_11_17 d_M_plain_103 rfl rfl 17 rfl hB (by first | exact hB _ _ | exact hB0 _ _ | exact hBt _ _ | exact ⟨by omega, by omega⟩) (fun σ103 hB e103 o103 f103 => ?_)
                  try have u103_0 : σ103 29 1 = σ83 29 1 := by first | exact o103 1 (by decide) | exact congrFun (f103 29 (by decide)) 1
                  try have u103_1 : σ103 29 2 = σ83 29 2 := by first | exact o103 2 (by decide) | exact congrFun (f103 29 (by decide)) 2
                  try have u103_2 : σ103 29 3 = σ83 29 3 := by first | exact o103 3 (by decide) | exact congrFun (f103 29 (by decide)) 3
                  try have u103_3 : σ103 29 5 = σ83 29 5 := by first | exact o103 5 (by decide) | exact congrFun (f103 29 (by decide)) 5
                  try have u103_4 : σ103 29 6 = σ83 29 6 := by first | exact o103 6 (by decide) | exact congrFun (f103 29 (by decide)) 6
                  try have u103_5 : σ103 29 7 = σ83 29 7 := by first | exact o103 7 (by decide) | exact congrFun (f103 29 (by decide)) 7
                  try have u103_6 : σ103 29 19 = σ83 29 19 := by first | exact o103 19 (by decide) | exact congrFun (f103 29 (by decide)) 19
                  try have u103_7 : σ103 29 21 = σ83 29 21 := by first | exact o103 21 (by decide) | exact congrFun (f103 29 (by decide)) 21
                  try have u103_8 : σ103 29 13 = σ83 29 13 := by first | exact o103 13 (by decide) | exact congrFun (f103 29 (by decide)) 13
                  try have u103_9 : σ103 29 14 = σ83 29 14 := by first | exact o103 14 (by decide) | exact congrFun (f103 29 (by decide)) 14
                  try have u103_10 : σ103 29 15 = σ83 29 15 := by first | exact o103 15 (by decide) | exact congrFun (f103 29 (by decide)) 15
                  try have u103_11 : σ103 29 16 = σ83 29 16 := by first | exact o103 16 (by decide) | exact congrFun (f103 29 (by decide)) 16
                  try have u103_12 : σ103 29 17 = σ83 29 17 := by first | exact o103 17 (by decide) | exact congrFun (f103 29 (by decide)) 17
                  try have u103_13 : σ103 29 18 = σ83 29 18 := by first | exact o103 18 (by decide) | exact congrFun (f103 29 (by decide)) 18
                  try have u103_14 : σ103 29 20 = σ83 29 20 := by first | exact o103 20 (by decide) | exact congrFun (f103 29 (by decide)) 20
                  refine pe_aload_n d_M_plain_106 rfl ?_
                  refine pe_iload_n d_M_plain_107 rfl ?_
                  refine pe_sipush d_M_plain_108 ?_
                  refine pe_icmp_ne (t := 120) d_M_plain_111 (by first | exact hB _ _ | exact hB0 _ _ | exact hBt _ _ | exact ⟨by omega, by omega⟩) (by first | exact hB _ _ | exact hB0 _ _ | exact hBt _ _ | exact ⟨by omega, by omega⟩) (fun h111 => ?_) (fun h111 => ?_)
                  · skip
                    refine pe_sipush d_M_plain_120 ?_
                    refine pe_putiT f_M_193 g_11_18 d_M_plain_123 rfl rfl 18 rfl hB (by first | exact hB _ _ | exact hB0 _ _ | exact hBt _ _ | exact ⟨by omega, by omega⟩) (fun σ123 hB e123 o123 f123 => ?_)
                    try have u123_0 : σ123 29 1 = σ103 29 1 := by first | exact o123 1 (by decide) | exact congrFun (f123 29 (by decide)) 1
                    try have u123_1 : σ123 29 2 = σ103 29 2 := by first | exact o123 2 (by decide) | exact congrFun (f123 29 (by decide)) 2
                    try have u123_2 : σ123 29 3 = σ103 29 3 := by first | exact o123 3 (by decide) | exact congrFun (f123 29 (by decide)) 3
                    try have u123_3 : σ123 29 5 = σ103 29 5 := by first | exact o123 5 (by decide) | exact congrFun (f123 29 (by decide)) 5
                    try have u123_4 : σ123 29 6 = σ103 29 6 := by first | exact o123 6 (by decide) | exact congrFun (f123 29 (by decide)) 6
                    try have u123_5 : σ123 29 7 = σ103 29 7 := by first | exact o123 7 (by decide) | exact congrFun (f123 29 (by decide)) 7
                    try have u123_6 : σ123 29 19 = σ103 29 19 := by first | exact o123 19 (by decide) | exact congrFun (f123 29 (by decide)) 19
                    try have u123_7 : σ123 29 21 = σ103 29 21 := by first | exact o123 21 (by decide) | exact congrFun (f123 29 (by decide)) 21
                    try have u123_8 : σ123 29 13 = σ103 29 13 := by first | exact o123 13 (by decide) | exact congrFun (f123 29 (by decide)) 13
                    try have u123_9 : σ123 29 14 = σ103 29 14 := by first | exact o123 14 (by decide) | exact congrFun (f123 29 (by decide)) 14
                    try have u123_10 : σ123 29 15 = σ103 29 15 := by first | exact o123 15 (by decide) | exact congrFun (f123 29 (by decide)) 15
                    try have u123_11 : σ123 29 16 = σ103 29 16 := by first | exact o123 16 (by decide) | exact congrFun (f123 29 (by decide)) 16
                    try have u123_12 : σ123 29 17 = σ103 29 17 := by first | exact o123 17 (by decide) | exact congrFun (f123 29 (by decide)) 17
                    try have u123_13 : σ123 29 18 = σ103 29 18 := by first | exact o123 18 (by decide) | exact congrFun (f123 29 (by decide)) 18
                    try have u123_14 : σ123 29 20 = σ103 29 20 := by first | exact o123 20 (by decide) | exact congrFun (f123 29 (by decide)) 20
                    refine pe_goto (t := 151) d_M_plain_126 ?_
                    refine pe_rv d_M_plain_151 ?_
                    first
                    | (exfalso; omega)
                    | (have hA2 := pe_ra_f hA (fun b hb => (f8 b (by rintro rfl; simp at hb))) (fun j hj => (o8 j (by rintro rfl; simp at hj)))
                       exact ⟨hB, (fun b hb => (f123 b (by simp at hb ⊢; try omega)).trans ((f103 b (by simp at hb ⊢; try omega)).trans ((f83 b (by simp at hb ⊢; try omega)).trans ((f61 b (by simp at hb ⊢; try omega)).trans (rfl))))), (fun j hj => (o123 j (by simp at hj ⊢; try omega)).trans ((o103 j (by simp at hj ⊢; try omega)).trans ((o83 j (by simp at hj ⊢; try omega)).trans ((o61 j (by simp at hj ⊢; try omega)).trans (rfl))))), by rw [pe_kk_p hs.1, if_pos (by omega), pe_q_n1]; exact hA2, pe_rk_e hs.1 (by omega) (by omega)⟩)
                    | (have hA2 := pe_ra_f hA (fun b hb => ((f123 b (by rintro rfl; simp at hb)).trans ((f103 b (by rintro rfl; simp at hb)).trans ((f83 b (by rintro rfl; simp at hb)).trans (f61 b (by rintro rfl; simp at hb)))))) (fun j hj => ((o123 j (by rintro rfl; simp at hj)).trans ((o103 j (by rintro rfl; simp at hj)).trans ((o83 j (by rintro rfl; simp at hj)).trans (o61 j (by rintro rfl; simp at hj))))))
                       exact ⟨hB, (fun b hb => (f123 b (by simp at hb ⊢; try omega)).trans ((f103 b (by simp at hb ⊢; try omega)).trans ((f83 b (by simp at hb ⊢; try omega)).trans ((f61 b (by simp at hb ⊢; try omega)).trans (rfl))))), (fun j hj => (o123 j (by simp at hj ⊢; try omega)).trans ((o103 j (by simp at hj ⊢; try omega)).trans ((o83 j (by simp at hj ⊢; try omega)).trans ((o61 j (by simp at hj ⊢; try omega)).trans (rfl))))), by rw [pe_kk_p hs.1, if_pos (by omega), pe_q_n1]; exact hA2, pe_rk_l hs.1 (by omega) (by omega)⟩)
                    | (exact ⟨hB, (fun b hb => (f123 b (by simp at hb ⊢; try omega)).trans ((f103 b (by simp at hb ⊢; try omega)).trans ((f83 b (by simp at hb ⊢; try omega)).trans ((f61 b (by simp at hb ⊢; try omega)).trans (rfl))))), (fun j hj => (o123 j (by simp at hj ⊢; try omega)).trans ((o103 j (by simp at hj ⊢; try omega)).trans ((o83 j (by simp at hj ⊢; try omega)).trans ((o61 j (by simp at hj ⊢; try omega)).trans (rfl))))), by rw [pe_kk_p hs.1, if_neg (by omega), if_neg (by omega), if_neg (by omega), pe_q_c (by omega)]; exact x28, pe_rk_p hs.1 (by omega) (by omega)⟩)
                    | (exact ⟨hB, (fun b hb => (f123 b (by simp at hb ⊢; try omega)).trans ((f103 b (by simp at hb ⊢; try omega)).trans ((f83 b (by simp at hb ⊢; try omega)).trans ((f61 b (by simp at hb ⊢; try omega)).trans (rfl))))), (fun j hj => (o123 j (by simp at hj ⊢; try omega)).trans ((o103 j (by simp at hj ⊢; try omega)).trans ((o83 j (by simp at hj ⊢; try omega)).trans ((o61 j (by simp at hj ⊢; try omega)).trans (rfl))))), by rw [pe_kk_p hs.1, if_neg (by omega), if_pos (by omega), pe_q_c (by omega)]; exact x139, pe_rk_p hs.1 (by omega) (by omega)⟩)
                    | (exact ⟨hB, (fun b hb => (f123 b (by simp at hb ⊢; try omega)).trans ((f103 b (by simp at hb ⊢; try omega)).trans ((f83 b (by simp at hb ⊢; try omega)).trans ((f61 b (by simp at hb ⊢; try omega)).trans (rfl))))), (fun j hj => (o123 j (by simp at hj ⊢; try omega)).trans ((o103 j (by simp at hj ⊢; try omega)).trans ((o83 j (by simp at hj ⊢; try omega)).trans ((o61 j (by simp at hj ⊢; try omega)).trans (rfl))))), by rw [pe_kk_p hs.1, if_neg (by omega), if_neg (by omega), hs.2]; exact x148, pe_rk_p hs.1 (by omega) (by omega)⟩)
                  · skip
                    refine pe_sipush d_M_plain_114 ?_
                    refine pe_goto (t := 123) d_M_plain_117 ?_
                    refine pe_putiT f_M_193 g_11_18 d_M_plain_123 rfl rfl 18 rfl hB (by first | exact hB _ _ | exact hB0 _ _ | exact hBt _ _ | exact ⟨by omega, by omega⟩) (fun σ123 hB e123 o123 f123 => ?_)
                    try have u123_0 : σ123 29 1 = σ103 29 1 := by first | exact o123 1 (by decide) | exact congrFun (f123 29 (by decide)) 1
                    try have u123_1 : σ123 29 2 = σ103 29 2 := by first | exact o123 2 (by decide) | exact congrFun (f123 29 (by decide)) 2
                    try have u123_2 : σ123 29 3 = σ103 29 3 := by first | exact o123 3 (by decide) | exact congrFun (f123 29 (by decide)) 3
                    try have u123_3 : σ123 29 5 = σ103 29 5 := by first | exact o123 5 (by decide) | exact congrFun (f123 29 (by decide)) 5
                    try have u123_4 : σ123 29 6 = σ103 29 6 := by first | exact o123 6 (by decide) | exact congrFun (f123 29 (by decide)) 6
                    try have u123_5 : σ123 29 7 = σ103 29 7 := by first | exact o123 7 (by decide) | exact congrFun (f123 29 (by decide)) 7
                    try have u123_6 : σ123 29 19 = σ103 29 19 := by first | exact o123 19 (by decide) | exact congrFun (f123 29 (by decide)) 19
                    try have u123_7 : σ123 29 21 = σ103 29 21 := by first | exact o123 21 (by decide) | exact congrFun (f123 29 (by decide)) 21
                    try have u123_8 : σ123 29 13 = σ103 29 13 := by first | exact o123 13 (by decide) | exact congrFun (f123 29 (by decide)) 13
                    try have u123_9 : σ123 29 14 = σ103 29 14 := by first | exact o123 14 (by decide) | exact congrFun (f123 29 (by decide)) 14
                    try have u123_10 : σ123 29 15 = σ103 29 15 := by first | exact o123 15 (by decide) | exact congrFun (f123 29 (by decide)) 15
                    try have u123_11 : σ123 29 16 = σ103 29 16 := by first | exact o123 16 (by decide) | exact congrFun (f123 29 (by decide)) 16
                    try have u123_12 : σ123 29 17 = σ103 29 17 := by first | exact o123 17 (by decide) | exact congrFun (f123 29 (by decide)) 17
                    try have u123_13 : σ123 29 18 = σ103 29 18 := by first | exact o123 18 (by decide) | exact congrFun (f123 29 (by decide)) 18
                    try have u123_14 : σ123 29 20 = σ103 29 20 := by first | exact o123 20 (by decide) | exact congrFun (f123 29 (by decide)) 20
                    refine pe_goto (t := 151) d_M_plain_126 ?_
                    refine pe_rv d_M_plain_151 ?_
                    first
                    | (exfalso; omega)
                    | (have hA2 := pe_ra_f hA (fun b hb => (f8 b (by rintro rfl; simp at hb))) (fun j hj => (o8 j (by rintro rfl; simp at hj)))
                       exact ⟨hB, (fun b hb => (f123 b (by simp at hb ⊢; try omega)).trans ((f103 b (by simp at hb ⊢; try omega)).trans ((f83 b (by simp at hb ⊢; try omega)).trans ((f61 b (by simp at hb ⊢; try omega)).trans (rfl))))), (fun j hj => (o123 j (by simp at hj ⊢; try omega)).trans ((o103 j (by simp at hj ⊢; try omega)).trans ((o83 j (by simp at hj ⊢; try omega)).trans ((o61 j (by simp at hj ⊢; try omega)).trans (rfl))))), by rw [pe_kk_p hs.1, if_pos (by omega), pe_q_n1]; exact hA2, pe_rk_e hs.1 (by omega) (by omega)⟩)
                    | (have hA2 := pe_ra_f hA (fun b hb => ((f123 b (by rintro rfl; simp at hb)).trans ((f103 b (by rintro rfl; simp at hb)).trans ((f83 b (by rintro rfl; simp at hb)).trans (f61 b (by rintro rfl; simp at hb)))))) (fun j hj => ((o123 j (by rintro rfl; simp at hj)).trans ((o103 j (by rintro rfl; simp at hj)).trans ((o83 j (by rintro rfl; simp at hj)).trans (o61 j (by rintro rfl; simp at hj))))))
                       exact ⟨hB, (fun b hb => (f123 b (by simp at hb ⊢; try omega)).trans ((f103 b (by simp at hb ⊢; try omega)).trans ((f83 b (by simp at hb ⊢; try omega)).trans ((f61 b (by simp at hb ⊢; try omega)).trans (rfl))))), (fun j hj => (o123 j (by simp at hj ⊢; try omega)).trans ((o103 j (by simp at hj ⊢; try omega)).trans ((o83 j (by simp at hj ⊢; try omega)).trans ((o61 j (by simp at hj ⊢; try omega)).trans (rfl))))), by rw [pe_kk_p hs.1, if_pos (by omega), pe_q_n1]; exact hA2, pe_rk_l hs.1 (by omega) (by omega)⟩)
                    | (exact ⟨hB, (fun b hb => (f123 b (by simp at hb ⊢; try omega)).trans ((f103 b (by simp at hb ⊢; try omega)).trans ((f83 b (by simp at hb ⊢; try omega)).trans ((f61 b (by simp at hb ⊢; try omega)).trans (rfl))))), (fun j hj => (o123 j (by simp at hj ⊢; try omega)).trans ((o103 j (by simp at hj ⊢; try omega)).trans ((o83 j (by simp at hj ⊢; try omega)).trans ((o61 j (by simp at hj ⊢; try omega)).trans (rfl))))), by rw [pe_kk_p hs.1, if_neg (by omega), if_neg (by omega), if_neg (by omega), pe_q_c (by omega)]; exact x28, pe_rk_p hs.1 (by omega) (by omega)⟩)
                    | (exact ⟨hB, (fun b hb => (f123 b (by simp at hb ⊢; try omega)).trans ((f103 b (by simp at hb ⊢; try omega)).trans ((f83 b (by simp at hb ⊢; try omega)).trans ((f61 b (by simp at hb ⊢; try omega)).trans (rfl))))), (fun j hj => (o123 j (by simp at hj ⊢; try omega)).trans ((o103 j (by simp at hj ⊢; try omega)).trans ((o83 j (by simp at hj ⊢; try omega)).trans ((o61 j (by simp at hj ⊢; try omega)).trans (rfl))))), by rw [pe_kk_p hs.1, if_neg (by omega), if_pos (by omega), pe_q_c (by omega)]; exact x139, pe_rk_p hs.1 (by omega) (by omega)⟩)
                    | (exact ⟨hB, (fun b hb => (f123 b (by simp at hb ⊢; try omega)).trans ((f103 b (by simp at hb ⊢; try omega)).trans ((f83 b (by simp at hb ⊢; try omega)).trans ((f61 b (by simp at hb ⊢; try omega)).trans (rfl))))), (fun j hj => (o123 j (by simp at hj ⊢; try omega)).trans ((o103 j (by simp at hj ⊢; try omega)).trans ((o83 j (by simp at hj ⊢; try omega)).trans ((o61 j (by simp at hj ⊢; try omega)).trans (rfl))))), by rw [pe_kk_p hs.1, if_neg (by omega), if_neg (by omega), hs.2]; exact x148, pe_rk_p hs.1 (by omega) (by omega)⟩)
                · skip
                  refine pe_sipush d_M_plain_94 ?_
                  refine pe_goto (t := 103) d_M_plain_97 ?_
                  refine pe_putiT f_M_190 g_11_17 d_M_plain_103 rfl rfl 17 rfl hB (by first | exact hB _ _ | exact hB0 _ _ | exact hBt _ _ | exact ⟨by omega, by omega⟩) (fun σ103 hB e103 o103 f103 => ?_)
                  try have u103_0 : σ103 29 1 = σ83 29 1 := by first | exact o103 1 (by decide) | exact congrFun (f103 29 (by decide)) 1
                  try have u103_1 : σ103 29 2 = σ83 29 2 := by first | exact o103 2 (by decide) | exact congrFun (f103 29 (by decide)) 2
                  try have u103_2 : σ103 29 3 = σ83 29 3 := by first | exact o103 3 (by decide) | exact congrFun (f103 29 (by decide)) 3
                  try have u103_3 : σ103 29 5 = σ83 29 5 := by first | exact o103 5 (by decide) | exact congrFun (f103 29 (by decide)) 5
                  try have u103_4 : σ103 29 6 = σ83 29 6 := by first | exact o103 6 (by decide) | exact congrFun (f103 29 (by decide)) 6
                  try have u103_5 : σ103 29 7 = σ83 29 7 := by first | exact o103 7 (by decide) | exact congrFun (f103 29 (by decide)) 7
                  try have u103_6 : σ103 29 19 = σ83 29 19 := by first | exact o103 19 (by decide) | exact congrFun (f103 29 (by decide)) 19
                  try have u103_7 : σ103 29 21 = σ83 29 21 := by first | exact o103 21 (by decide) | exact congrFun (f103 29 (by decide)) 21
                  try have u103_8 : σ103 29 13 = σ83 29 13 := by first | exact o103 13 (by decide) | exact congrFun (f103 29 (by decide)) 13
                  try have u103_9 : σ103 29 14 = σ83 29 14 := by first | exact o103 14 (by decide) | exact congrFun (f103 29 (by decide)) 14
                  try have u103_10 : σ103 29 15 = σ83 29 15 := by first | exact o103 15 (by decide) | exact congrFun (f103 29 (by decide)) 15
                  try have u103_11 : σ103 29 16 = σ83 29 16 := by first | exact o103 16 (by decide) | exact congrFun (f103 29 (by decide)) 16
                  try have u103_12 : σ103 29 17 = σ83 29 17 := by first | exact o103 17 (by decide) | exact congrFun (f103 29 (by decide)) 17
                  try have u103_13 : σ103 29 18 = σ83 29 18 := by first | exact o103 18 (by decide) | exact congrFun (f103 29 (by decide)) 18
                  try have u103_14 : σ103 29 20 = σ83 29 20 := by first | exact o103 20 (by decide) | exact congrFun (f103 29 (by decide)) 20
                  refine pe_aload_n d_M_plain_106 rfl ?_
                  refine pe_iload_n d_M_plain_107 rfl ?_
                  refine pe_sipush d_M_plain_108 ?_
                  refine pe_icmp_ne (t := 120) d_M_plain_111 (by first | exact hB _ _ | exact hB0 _ _ | exact hBt _ _ | exact ⟨by omega, by omega⟩) (by first | exact hB _ _ | exact hB0 _ _ | exact hBt _ _ | exact ⟨by omega, by omega⟩) (fun h111 => ?_) (fun h111 => ?_)
                  · skip
                    refine pe_sipush d_M_plain_120 ?_
                    refine pe_putiT f_M_193 g_11_18 d_M_plain_123 rfl rfl 18 rfl hB (by first | exact hB _ _ | exact hB0 _ _ | exact hBt _ _ | exact ⟨by omega, by omega⟩) (fun σ123 hB e123 o123 f123 => ?_)
                    try have u123_0 : σ123 29 1 = σ103 29 1 := by first | exact o123 1 (by decide) | exact congrFun (f123 29 (by decide)) 1
                    try have u123_1 : σ123 29 2 = σ103 29 2 := by first | exact o123 2 (by decide) | exact congrFun (f123 29 (by decide)) 2
                    try have u123_2 : σ123 29 3 = σ103 29 3 := by first | exact o123 3 (by decide) | exact congrFun (f123 29 (by decide)) 3
                    try have u123_3 : σ123 29 5 = σ103 29 5 := by first | exact o123 5 (by decide) | exact congrFun (f123 29 (by decide)) 5
                    try have u123_4 : σ123 29 6 = σ103 29 6 := by first | exact o123 6 (by decide) | exact congrFun (f123 29 (by decide)) 6
                    try have u123_5 : σ123 29 7 = σ103 29 7 := by first | exact o123 7 (by decide) | exact congrFun (f123 29 (by decide)) 7
                    try have u123_6 : σ123 29 19 = σ103 29 19 := by first | exact o123 19 (by decide) | exact congrFun (f123 29 (by decide)) 19
                    try have u123_7 : σ123 29 21 = σ103 29 21 := by first | exact o123 21 (by decide) | exact congrFun (f123 29 (by decide)) 21
                    try have u123_8 : σ123 29 13 = σ103 29 13 := by first | exact o123 13 (by decide) | exact congrFun (f123 29 (by decide)) 13
                    try have u123_9 : σ123 29 14 = σ103 29 14 := by first | exact o123 14 (by decide) | exact congrFun (f123 29 (by decide)) 14
                    try have u123_10 : σ123 29 15 = σ103 29 15 := by first | exact o123 15 (by decide) | exact congrFun (f123 29 (by decide)) 15
                    try have u123_11 : σ123 29 16 = σ103 29 16 := by first | exact o123 16 (by decide) | exact congrFun (f123 29 (by decide)) 16
                    try have u123_12 : σ123 29 17 = σ103 29 17 := by first | exact o123 17 (by decide) | exact congrFun (f123 29 (by decide)) 17
                    try have u123_13 : σ123 29 18 = σ103 29 18 := by first | exact o123 18 (by decide) | exact congrFun (f123 29 (by decide)) 18
                    try have u123_14 : σ123 29 20 = σ103 29 20 := by first | exact o123 20 (by decide) | exact congrFun (f123 29 (by decide)) 20
                    refine pe_goto (t := 151) d_M_plain_126 ?_
                    refine pe_rv d_M_plain_151 ?_
                    first
                    | (exfalso; omega)
                    | (have hA2 := pe_ra_f hA (fun b hb => (f8 b (by rintro rfl; simp at hb))) (fun j hj => (o8 j (by rintro rfl; simp at hj)))
                       exact ⟨hB, (fun b hb => (f123 b (by simp at hb ⊢; try omega)).trans ((f103 b (by simp at hb ⊢; try omega)).trans ((f83 b (by simp at hb ⊢; try omega)).trans ((f61 b (by simp at hb ⊢; try omega)).trans (rfl))))), (fun j hj => (o123 j (by simp at hj ⊢; try omega)).trans ((o103 j (by simp at hj ⊢; try omega)).trans ((o83 j (by simp at hj ⊢; try omega)).trans ((o61 j (by simp at hj ⊢; try omega)).trans (rfl))))), by rw [pe_kk_p hs.1, if_pos (by omega), pe_q_n1]; exact hA2, pe_rk_e hs.1 (by omega) (by omega)⟩)
                    | (have hA2 := pe_ra_f hA (fun b hb => ((f123 b (by rintro rfl; simp at hb)).trans ((f103 b (by rintro rfl; simp at hb)).trans ((f83 b (by rintro rfl; simp at hb)).trans (f61 b (by rintro rfl; simp at hb)))))) (fun j hj => ((o123 j (by rintro rfl; simp at hj)).trans ((o103 j (by rintro rfl; simp at hj)).trans ((o83 j (by rintro rfl; simp at hj)).trans (o61 j (by rintro rfl; simp at hj))))))
                       exact ⟨hB, (fun b hb => (f123 b (by simp at hb ⊢; try omega)).trans ((f103 b (by simp at hb ⊢; try omega)).trans ((f83 b (by simp at hb ⊢; try omega)).trans ((f61 b (by simp at hb ⊢; try omega)).trans (rfl))))), (fun j hj => (o123 j (by simp at hj ⊢; try omega)).trans ((o103 j (by simp at hj ⊢; try omega)).trans ((o83 j (by simp at hj ⊢; try omega)).trans ((o61 j (by simp at hj ⊢; try omega)).trans (rfl))))), by rw [pe_kk_p hs.1, if_pos (by omega), pe_q_n1]; exact hA2, pe_rk_l hs.1 (by omega) (by omega)⟩)
                    | (exact ⟨hB, (fun b hb => (f123 b (by simp at hb ⊢; try omega)).trans ((f103 b (by simp at hb ⊢; try omega)).trans ((f83 b (by simp at hb ⊢; try omega)).trans ((f61 b (by simp at hb ⊢; try omega)).trans (rfl))))), (fun j hj => (o123 j (by simp at hj ⊢; try omega)).trans ((o103 j (by simp at hj ⊢; try omega)).trans ((o83 j (by simp at hj ⊢; try omega)).trans ((o61 j (by simp at hj ⊢; try omega)).trans (rfl))))), by rw [pe_kk_p hs.1, if_neg (by omega), if_neg (by omega), if_neg (by omega), pe_q_c (by omega)]; exact x28, pe_rk_p hs.1 (by omega) (by omega)⟩)
                    | (exact ⟨hB, (fun b hb => (f123 b (by simp at hb ⊢; try omega)).trans ((f103 b (by simp at hb ⊢; try omega)).trans ((f83 b (by simp at hb ⊢; try omega)).trans ((f61 b (by simp at hb ⊢; try omega)).trans (rfl))))), (fun j hj => (o123 j (by simp at hj ⊢; try omega)).trans ((o103 j (by simp at hj ⊢; try omega)).trans ((o83 j (by simp at hj ⊢; try omega)).trans ((o61 j (by simp at hj ⊢; try omega)).trans (rfl))))), by rw [pe_kk_p hs.1, if_neg (by omega), if_pos (by omega), pe_q_c (by omega)]; exact x139, pe_rk_p hs.1 (by omega) (by omega)⟩)
                    | (exact ⟨hB, (fun b hb => (f123 b (by simp at hb ⊢; try omega)).trans ((f103 b (by simp at hb ⊢; try omega)).trans ((f83 b (by simp at hb ⊢; try omega)).trans ((f61 b (by simp at hb ⊢; try omega)).trans (rfl))))), (fun j hj => (o123 j (by simp at hj ⊢; try omega)).trans ((o103 j (by simp at hj ⊢; try omega)).trans ((o83 j (by simp at hj ⊢; try omega)).trans ((o61 j (by simp at hj ⊢; try omega)).trans (rfl))))), by rw [pe_kk_p hs.1, if_neg (by omega), if_neg (by omega), hs.2]; exact x148, pe_rk_p hs.1 (by omega) (by omega)⟩)
                  · skip
                    refine pe_sipush d_M_plain_114 ?_
                    refine pe_goto (t := 123) d_M_plain_117 ?_
                    refine pe_putiT f_M_193 g_11_18 d_M_plain_123 rfl rfl 18 rfl hB (by first | exact hB _ _ | exact hB0 _ _ | exact hBt _ _ | exact ⟨by omega, by omega⟩) (fun σ123 hB e123 o123 f123 => ?_)
                    try have u123_0 : σ123 29 1 = σ103 29 1 := by first | exact o123 1 (by decide) | exact congrFun (f123 29 (by decide)) 1
                    try have u123_1 : σ123 29 2 = σ103 29 2 := by first | exact o123 2 (by decide) | exact congrFun (f123 29 (by decide)) 2
                    try have u123_2 : σ123 29 3 = σ103 29 3 := by first | exact o123 3 (by decide) | exact congrFun (f123 29 (by decide)) 3
                    try have u123_3 : σ123 29 5 = σ103 29 5 := by first | exact o123 5 (by decide) | exact congrFun (f123 29 (by decide)) 5
                    try have u123_4 : σ123 29 6 = σ103 29 6 := by first | exact o123 6 (by decide) | exact congrFun (f123 29 (by decide)) 6
                    try have u123_5 : σ123 29 7 = σ103 29 7 := by first | exact o123 7 (by decide) | exact congrFun (f123 29 (by decide)) 7
                    try have u123_6 : σ123 29 19 = σ103 29 19 := by first | exact o123 19 (by decide) | exact congrFun (f123 29 (by decide)) 19
                    try have u123_7 : σ123 29 21 = σ103 29 21 := by first | exact o123 21 (by decide) | exact congrFun (f123 29 (by decide)) 21
                    try have u123_8 : σ123 29 13 = σ103 29 13 := by first | exact o123 13 (by decide) | exact congrFun (f123 29 (by decide)) 13
                    try have u123_9 : σ123 29 14 = σ103 29 14 := by first | exact o123 14 (by decide) | exact congrFun (f123 29 (by decide)) 14
                    try have u123_10 : σ123 29 15 = σ103 29 15 := by first | exact o123 15 (by decide) | exact congrFun (f123 29 (by decide)) 15
                    try have u123_11 : σ123 29 16 = σ103 29 16 := by first | exact o123 16 (by decide) | exact congrFun (f123 29 (by decide)) 16
                    try have u123_12 : σ123 29 17 = σ103 29 17 := by first | exact o123 17 (by decide) | exact congrFun (f123 29 (by decide)) 17
                    try have u123_13 : σ123 29 18 = σ103 29 18 := by first | exact o123 18 (by decide) | exact congrFun (f123 29 (by decide)) 18
                    try have u123_14 : σ123 29 20 = σ103 29 20 := by first | exact o123 20 (by decide) | exact congrFun (f123 29 (by decide)) 20
                    refine pe_goto (t := 151) d_M_plain_126 ?_
                    refine pe_rv d_M_plain_151 ?_
                    first
                    | (exfalso; omega)
                    | (have hA2 := pe_ra_f hA (fun b hb => (f8 b (by rintro rfl; simp at hb))) (fun j hj => (o8 j (by rintro rfl; simp at hj)))
                       exact ⟨hB, (fun b hb => (f123 b (by simp at hb ⊢; try omega)).trans ((f103 b (by simp at hb ⊢; try omega)).trans ((f83 b (by simp at hb ⊢; try omega)).trans ((f61 b (by simp at hb ⊢; try omega)).trans (rfl))))), (fun j hj => (o123 j (by simp at hj ⊢; try omega)).trans ((o103 j (by simp at hj ⊢; try omega)).trans ((o83 j (by simp at hj ⊢; try omega)).trans ((o61 j (by simp at hj ⊢; try omega)).trans (rfl))))), by rw [pe_kk_p hs.1, if_pos (by omega), pe_q_n1]; exact hA2, pe_rk_e hs.1 (by omega) (by omega)⟩)
                    | (have hA2 := pe_ra_f hA (fun b hb => ((f123 b (by rintro rfl; simp at hb)).trans ((f103 b (by rintro rfl; simp at hb)).trans ((f83 b (by rintro rfl; simp at hb)).trans (f61 b (by rintro rfl; simp at hb)))))) (fun j hj => ((o123 j (by rintro rfl; simp at hj)).trans ((o103 j (by rintro rfl; simp at hj)).trans ((o83 j (by rintro rfl; simp at hj)).trans (o61 j (by rintro rfl; simp at hj))))))
                       exact ⟨hB, (fun b hb => (f123 b (by simp at hb ⊢; try omega)).trans ((f103 b (by simp at hb ⊢; try omega)).trans ((f83 b (by simp at hb ⊢; try omega)).trans ((f61 b (by simp at hb ⊢; try omega)).trans (rfl))))), (fun j hj => (o123 j (by simp at hj ⊢; try omega)).trans ((o103 j (by simp at hj ⊢; try omega)).trans ((o83 j (by simp at hj ⊢; try omega)).trans ((o61 j (by simp at hj ⊢; try omega)).trans (rfl))))), by rw [pe_kk_p hs.1, if_pos (by omega), pe_q_n1]; exact hA2, pe_rk_l hs.1 (by omega) (by omega)⟩)
                    | (exact ⟨hB, (fun b hb => (f123 b (by simp at hb ⊢; try omega)).trans ((f103 b (by simp at hb ⊢; try omega)).trans ((f83 b (by simp at hb ⊢; try omega)).trans ((f61 b (by simp at hb ⊢; try omega)).trans (rfl))))), (fun j hj => (o123 j (by simp at hj ⊢; try omega)).trans ((o103 j (by simp at hj ⊢; try omega)).trans ((o83 j (by simp at hj ⊢; try omega)).trans ((o61 j (by simp at hj ⊢; try omega)).trans (rfl))))), by rw [pe_kk_p hs.1, if_neg (by omega), if_neg (by omega), if_neg (by omega), pe_q_c (by omega)]; exact x28, pe_rk_p hs.1 (by omega) (by omega)⟩)
                    | (exact ⟨hB, (fun b hb => (f123 b (by simp at hb ⊢; try omega)).trans ((f103 b (by simp at hb ⊢; try omega)).trans ((f83 b (by simp at hb ⊢; try omega)).trans ((f61 b (by simp at hb ⊢; try omega)).trans (rfl))))), (fun j hj => (o123 j (by simp at hj ⊢; try omega)).trans ((o103 j (by simp at hj ⊢; try omega)).trans ((o83 j (by simp at hj ⊢; try omega)).trans ((o61 j (by simp at hj ⊢; try omega)).trans (rfl))))), by rw [pe_kk_p hs.1, if_neg (by omega), if_pos (by omega), pe_q_c (by omega)]; exact x139, pe_rk_p hs.1 (by omega) (by omega)⟩)
                    | (exact ⟨hB, (fun b hb => (f123 b (by simp at hb ⊢; try omega)).trans ((f103 b (by simp at hb ⊢; try omega)).trans ((f83 b (by simp at hb ⊢; try omega)).trans ((f61 b (by simp at hb ⊢; try omega)).trans (rfl))))), (fun j hj => (o123 j (by simp at hj ⊢; try omega)).trans ((o103 j (by simp at hj ⊢; try omega)).trans ((o83 j (by simp at hj ⊢; try omega)).trans ((o61 j (by simp at hj ⊢; try omega)).trans (rfl))))), by rw [pe_kk_p hs.1, if_neg (by omega), if_neg (by omega), hs.2]; exact x148, pe_rk_p hs.1 (by omega) (by omega)⟩)
      · skip
        refine pe_aload_n d_M_plain_26 rfl ?_
        refine pe_iload_n d_M_plain_27 rfl ?_
        refine pe_v1v d_M_plain_28 c_M_144 i_M_character s_M_character rfl rfl (x_M_character hB hA hw hk hg (by first | exact hB _ _ | exact hB0 _ _ | exact hBt _ _ | exact ⟨by omega, by omega⟩)) (fun σ28 hz28 => ?_)
        obtain ⟨hB, f28, o28, x28⟩ := hz28
        try have u28_0 : σ28 29 1 = σ 29 1 := by first | exact o28 1 (by decide) | exact congrFun (f28 29 (by decide)) 1
        try have u28_1 : σ28 29 2 = σ 29 2 := by first | exact o28 2 (by decide) | exact congrFun (f28 29 (by decide)) 2
        try have u28_2 : σ28 29 3 = σ 29 3 := by first | exact o28 3 (by decide) | exact congrFun (f28 29 (by decide)) 3
        try have u28_3 : σ28 29 5 = σ 29 5 := by first | exact o28 5 (by decide) | exact congrFun (f28 29 (by decide)) 5
        try have u28_4 : σ28 29 6 = σ 29 6 := by first | exact o28 6 (by decide) | exact congrFun (f28 29 (by decide)) 6
        try have u28_5 : σ28 29 7 = σ 29 7 := by first | exact o28 7 (by decide) | exact congrFun (f28 29 (by decide)) 7
        try have u28_6 : σ28 29 19 = σ 29 19 := by first | exact o28 19 (by decide) | exact congrFun (f28 29 (by decide)) 19
        try have u28_7 : σ28 29 21 = σ 29 21 := by first | exact o28 21 (by decide) | exact congrFun (f28 29 (by decide)) 21
        try have u28_8 : σ28 29 13 = σ 29 13 := by first | exact o28 13 (by decide) | exact congrFun (f28 29 (by decide)) 13
        try have u28_9 : σ28 29 14 = σ 29 14 := by first | exact o28 14 (by decide) | exact congrFun (f28 29 (by decide)) 14
        try have u28_10 : σ28 29 15 = σ 29 15 := by first | exact o28 15 (by decide) | exact congrFun (f28 29 (by decide)) 15
        try have u28_11 : σ28 29 16 = σ 29 16 := by first | exact o28 16 (by decide) | exact congrFun (f28 29 (by decide)) 16
        try have u28_12 : σ28 29 17 = σ 29 17 := by first | exact o28 17 (by decide) | exact congrFun (f28 29 (by decide)) 17
        try have u28_13 : σ28 29 18 = σ 29 18 := by first | exact o28 18 (by decide) | exact congrFun (f28 29 (by decide)) 18
        try have u28_14 : σ28 29 20 = σ 29 20 := by first | exact o28 20 (by decide) | exact congrFun (f28 29 (by decide)) 20
        skip
        refine pe_goto (t := 151) d_M_plain_31 ?_
        refine pe_rv d_M_plain_151 ?_
        first
        | (exfalso; omega)
        | (have hA2 := pe_ra_f hA (fun b hb => (f8 b (by rintro rfl; simp at hb))) (fun j hj => (o8 j (by rintro rfl; simp at hj)))
           exact ⟨hB, (fun b hb => (f28 b (by simp at hb ⊢; try omega)).trans (rfl)), (fun j hj => (o28 j (by simp at hj ⊢; try omega)).trans (rfl)), by rw [pe_kk_p hs.1, if_pos (by omega), pe_q_n1]; exact hA2, pe_rk_e hs.1 (by omega) (by omega)⟩)
        | (have hA2 := pe_ra_f hA (fun b hb => ((f123 b (by rintro rfl; simp at hb)).trans ((f103 b (by rintro rfl; simp at hb)).trans ((f83 b (by rintro rfl; simp at hb)).trans (f61 b (by rintro rfl; simp at hb)))))) (fun j hj => ((o123 j (by rintro rfl; simp at hj)).trans ((o103 j (by rintro rfl; simp at hj)).trans ((o83 j (by rintro rfl; simp at hj)).trans (o61 j (by rintro rfl; simp at hj))))))
           exact ⟨hB, (fun b hb => (f28 b (by simp at hb ⊢; try omega)).trans (rfl)), (fun j hj => (o28 j (by simp at hj ⊢; try omega)).trans (rfl)), by rw [pe_kk_p hs.1, if_pos (by omega), pe_q_n1]; exact hA2, pe_rk_l hs.1 (by omega) (by omega)⟩)
        | (exact ⟨hB, (fun b hb => (f28 b (by simp at hb ⊢; try omega)).trans (rfl)), (fun j hj => (o28 j (by simp at hj ⊢; try omega)).trans (rfl)), by rw [pe_kk_p hs.1, if_neg (by omega), if_neg (by omega), if_neg (by omega), pe_q_c (by omega)]; exact x28, pe_rk_p hs.1 (by omega) (by omega)⟩)
        | (exact ⟨hB, (fun b hb => (f28 b (by simp at hb ⊢; try omega)).trans (rfl)), (fun j hj => (o28 j (by simp at hj ⊢; try omega)).trans (rfl)), by rw [pe_kk_p hs.1, if_neg (by omega), if_pos (by omega), pe_q_c (by omega)]; exact x139, pe_rk_p hs.1 (by omega) (by omega)⟩)
        | (exact ⟨hB, (fun b hb => (f28 b (by simp at hb ⊢; try omega)).trans (rfl)), (fun j hj => (o28 j (by simp at hj ⊢; try omega)).trans (rfl)), by rw [pe_kk_p hs.1, if_neg (by omega), if_neg (by omega), hs.2]; exact x148, pe_rk_p hs.1 (by omega) (by omega)⟩)
  · skip
    refine pe_aload_n d_M_plain_6 rfl ?_
    refine pe_iconst d_M_plain_7 ?_
    refine pe_putiT f_M_181 g_11_13 d_M_plain_8 rfl rfl 13 rfl hB (by first | exact hB _ _ | exact hB0 _ _ | exact hBt _ _ | exact ⟨by omega, by omega⟩) (fun σ8 hB e8 o8 f8 => ?_)
    try have u8_0 : σ8 29 1 = σ 29 1 := by first | exact o8 1 (by decide) | exact congrFun (f8 29 (by decide)) 1
    try have u8_1 : σ8 29 2 = σ 29 2 := by first | exact o8 2 (by decide) | exact congrFun (f8 29 (by decide)) 2
    try have u8_2 : σ8 29 3 = σ 29 3 := by first | exact o8 3 (by decide) | exact congrFun (f8 29 (by decide)) 3
    try have u8_3 : σ8 29 5 = σ 29 5 := by first | exact o8 5 (by decide) | exact congrFun (f8 29 (by decide)) 5
    try have u8_4 : σ8 29 6 = σ 29 6 := by first | exact o8 6 (by decide) | exact congrFun (f8 29 (by decide)) 6
    try have u8_5 : σ8 29 7 = σ 29 7 := by first | exact o8 7 (by decide) | exact congrFun (f8 29 (by decide)) 7
    try have u8_6 : σ8 29 19 = σ 29 19 := by first | exact o8 19 (by decide) | exact congrFun (f8 29 (by decide)) 19
    try have u8_7 : σ8 29 21 = σ 29 21 := by first | exact o8 21 (by decide) | exact congrFun (f8 29 (by decide)) 21
    try have u8_8 : σ8 29 13 = σ 29 13 := by first | exact o8 13 (by decide) | exact congrFun (f8 29 (by decide)) 13
    try have u8_9 : σ8 29 14 = σ 29 14 := by first | exact o8 14 (by decide) | exact congrFun (f8 29 (by decide)) 14
    try have u8_10 : σ8 29 15 = σ 29 15 := by first | exact o8 15 (by decide) | exact congrFun (f8 29 (by decide)) 15
    try have u8_11 : σ8 29 16 = σ 29 16 := by first | exact o8 16 (by decide) | exact congrFun (f8 29 (by decide)) 16
    try have u8_12 : σ8 29 17 = σ 29 17 := by first | exact o8 17 (by decide) | exact congrFun (f8 29 (by decide)) 17
    try have u8_13 : σ8 29 18 = σ 29 18 := by first | exact o8 18 (by decide) | exact congrFun (f8 29 (by decide)) 18
    try have u8_14 : σ8 29 20 = σ 29 20 := by first | exact o8 20 (by decide) | exact congrFun (f8 29 (by decide)) 20
    refine pe_goto (t := 151) d_M_plain_11 ?_
    refine pe_rv d_M_plain_151 ?_
    first
    | (exfalso; omega)
    | (have hA2 := pe_ra_f hA (fun b hb => (f8 b (by rintro rfl; simp at hb))) (fun j hj => (o8 j (by rintro rfl; simp at hj)))
       exact ⟨hB, (fun b hb => (f8 b (by simp at hb ⊢; try omega)).trans (rfl)), (fun j hj => (o8 j (by simp at hj ⊢; try omega)).trans (rfl)), by rw [pe_kk_p hs.1, if_pos (by omega), pe_q_n1]; exact hA2, pe_rk_e hs.1 (by omega) (by omega)⟩)
    | (have hA2 := pe_ra_f hA (fun b hb => ((f123 b (by rintro rfl; simp at hb)).trans ((f103 b (by rintro rfl; simp at hb)).trans ((f83 b (by rintro rfl; simp at hb)).trans (f61 b (by rintro rfl; simp at hb)))))) (fun j hj => ((o123 j (by rintro rfl; simp at hj)).trans ((o103 j (by rintro rfl; simp at hj)).trans ((o83 j (by rintro rfl; simp at hj)).trans (o61 j (by rintro rfl; simp at hj))))))
       exact ⟨hB, (fun b hb => (f8 b (by simp at hb ⊢; try omega)).trans (rfl)), (fun j hj => (o8 j (by simp at hj ⊢; try omega)).trans (rfl)), by rw [pe_kk_p hs.1, if_pos (by omega), pe_q_n1]; exact hA2, pe_rk_l hs.1 (by omega) (by omega)⟩)
    | (exact ⟨hB, (fun b hb => (f8 b (by simp at hb ⊢; try omega)).trans (rfl)), (fun j hj => (o8 j (by simp at hj ⊢; try omega)).trans (rfl)), by rw [pe_kk_p hs.1, if_neg (by omega), if_neg (by omega), if_neg (by omega), pe_q_c (by omega)]; exact x28, pe_rk_p hs.1 (by omega) (by omega)⟩)
    | (exact ⟨hB, (fun b hb => (f8 b (by simp at hb ⊢; try omega)).trans (rfl)), (fun j hj => (o8 j (by simp at hj ⊢; try omega)).trans (rfl)), by rw [pe_kk_p hs.1, if_neg (by omega), if_pos (by omega), pe_q_c (by omega)]; exact x139, pe_rk_p hs.1 (by omega) (by omega)⟩)
    | (exact ⟨hB, (fun b hb => (f8 b (by simp at hb ⊢; try omega)).trans (rfl)), (fun j hj => (o8 j (by simp at hj ⊢; try omega)).trans (rfl)), by rw [pe_kk_p hs.1, if_neg (by omega), if_neg (by omega), hs.2]; exact x148, pe_rk_p hs.1 (by omega) (by omega)⟩)
theorem x_M_within {m σ : pe_H} {s : Int → Int} {b a : Int} (hB : pe_B σ) (hA : pe_ra m σ) (hw : pe_wf m) (hk : m 5 0 ≤ 10) (hg : pe_bg (m 8) (m 0 0) (m 1 0)) (hkw : pe_kw s) (hs : s 0 = 3 ∧ s 6 = a) (hkb : σ 29 13 = 0 ∧ σ 29 15 = s 3 ∧ σ 29 16 = s 2 ∧ σ 29 17 = s 4 ∧ σ 29 18 = s 5 ∧ σ 29 20 = b) (hb : 0 ≤ b ∧ b ≤ 255) (ha : pe_R a) : pe_M m_M_within [pe_r 29, pe_i b, pe_i a] σ (pe_qv (fun σ' => pe_B σ' ∧ (∀ b, b ∉ [29, 30, 32, 33, 34, 35, 36, 31] → σ' b = σ b) ∧ (∀ j, j ∉ ([1, 2, 3, 5, 6, 7, 13, 15, 16, 17, 18, 41] : List Int) → σ' 29 j = σ 29 j) ∧ (pe_ra (pe_st pe_ePq (m, s) b).1 σ' ∧ pe_rk (pe_ky (pe_kx s b) b) σ'))) := by
  refine pe_in0 (lv := [some (pe_r 29), some (pe_i b), some (pe_i a)]) ?_
  have hB0 := hB
  obtain ⟨⟨⟨a1, a2, a3, a4, a5⟩, a7, a8, a9⟩, A2, A3, A4⟩ := id hA
  obtain ⟨⟨w1, w2, w3, w4, w5, w6, w7, w8⟩, W2, W3⟩ := id hw
  have hk1 : m 5 0 ≤ 11 := by omega
  have KW := hkw
  unfold pe_kw at KW
  refine pe_iload_n d_M_within_0 rfl ?_
  refine pe_aload_n d_M_within_1 rfl ?_
  refine pe_geti f_M_190 d_M_within_2 rfl rfl 17 rfl ?_
  refine pe_icmp_lt (t := 16) d_M_within_5 (by first | exact hB _ _ | exact hB0 _ _ | exact hBt _ _ | exact ⟨by omega, by omega⟩) (by first | exact hB _ _ | exact hB0 _ _ | exact hBt _ _ | exact ⟨by omega, by omega⟩) (fun h5 => ?_) (fun h5 => ?_)
  · skip
    refine pe_aload_n d_M_within_16 rfl ?_
    refine pe_iconst d_M_within_17 ?_
    refine pe_putiT f_M_184 g_11_15 d_M_within_18 rfl rfl 15 rfl hB (by first | exact hB _ _ | exact hB0 _ _ | exact hBt _ _ | exact ⟨by omega, by omega⟩) (fun σ18 hB e18 o18 f18 => ?_)
    try have u18_0 : σ18 29 1 = σ 29 1 := by first | exact o18 1 (by decide) | exact congrFun (f18 29 (by decide)) 1
    try have u18_1 : σ18 29 2 = σ 29 2 := by first | exact o18 2 (by decide) | exact congrFun (f18 29 (by decide)) 2
    try have u18_2 : σ18 29 3 = σ 29 3 := by first | exact o18 3 (by decide) | exact congrFun (f18 29 (by decide)) 3
    try have u18_3 : σ18 29 5 = σ 29 5 := by first | exact o18 5 (by decide) | exact congrFun (f18 29 (by decide)) 5
    try have u18_4 : σ18 29 6 = σ 29 6 := by first | exact o18 6 (by decide) | exact congrFun (f18 29 (by decide)) 6
    try have u18_5 : σ18 29 7 = σ 29 7 := by first | exact o18 7 (by decide) | exact congrFun (f18 29 (by decide)) 7
    try have u18_6 : σ18 29 19 = σ 29 19 := by first | exact o18 19 (by decide) | exact congrFun (f18 29 (by decide)) 19
    try have u18_7 : σ18 29 21 = σ 29 21 := by first | exact o18 21 (by decide) | exact congrFun (f18 29 (by decide)) 21
    try have u18_8 : σ18 29 13 = σ 29 13 := by first | exact o18 13 (by decide) | exact congrFun (f18 29 (by decide)) 13
    try have u18_9 : σ18 29 14 = σ 29 14 := by first | exact o18 14 (by decide) | exact congrFun (f18 29 (by decide)) 14
    try have u18_10 : σ18 29 15 = σ 29 15 := by first | exact o18 15 (by decide) | exact congrFun (f18 29 (by decide)) 15
    try have u18_11 : σ18 29 16 = σ 29 16 := by first | exact o18 16 (by decide) | exact congrFun (f18 29 (by decide)) 16
    try have u18_12 : σ18 29 17 = σ 29 17 := by first | exact o18 17 (by decide) | exact congrFun (f18 29 (by decide)) 17
    try have u18_13 : σ18 29 18 = σ 29 18 := by first | exact o18 18 (by decide) | exact congrFun (f18 29 (by decide)) 18
    try have u18_14 : σ18 29 20 = σ 29 20 := by first | exact o18 20 (by decide) | exact congrFun (f18 29 (by decide)) 20
    have hA1 := pe_ra_f hA (fun b hb => (f18 b (by rintro rfl; simp at hb))) (fun j hj => (o18 j (by rintro rfl; simp at hj)))
    have O3 := pe_3_out hs.1 (by omega : b < s 4 ∨ s 5 < b)
    refine pe_aload_n d_M_within_21 rfl ?_
    refine pe_ldc q_M_196 d_M_within_22 (z := 65533) rfl ?_
    refine pe_v1v d_M_within_24 c_M_144 i_M_character s_M_character rfl rfl (x_M_character hB hA1 hw hk1 hg (by first | exact hB _ _ | exact hB0 _ _ | exact hBt _ _ | exact ⟨by omega, by omega⟩)) (fun σ24 hz24 => ?_)
    obtain ⟨hB, f24, o24, x24⟩ := hz24
    try have u24_0 : σ24 29 1 = σ18 29 1 := by first | exact o24 1 (by decide) | exact congrFun (f24 29 (by decide)) 1
    try have u24_1 : σ24 29 2 = σ18 29 2 := by first | exact o24 2 (by decide) | exact congrFun (f24 29 (by decide)) 2
    try have u24_2 : σ24 29 3 = σ18 29 3 := by first | exact o24 3 (by decide) | exact congrFun (f24 29 (by decide)) 3
    try have u24_3 : σ24 29 5 = σ18 29 5 := by first | exact o24 5 (by decide) | exact congrFun (f24 29 (by decide)) 5
    try have u24_4 : σ24 29 6 = σ18 29 6 := by first | exact o24 6 (by decide) | exact congrFun (f24 29 (by decide)) 6
    try have u24_5 : σ24 29 7 = σ18 29 7 := by first | exact o24 7 (by decide) | exact congrFun (f24 29 (by decide)) 7
    try have u24_6 : σ24 29 19 = σ18 29 19 := by first | exact o24 19 (by decide) | exact congrFun (f24 29 (by decide)) 19
    try have u24_7 : σ24 29 21 = σ18 29 21 := by first | exact o24 21 (by decide) | exact congrFun (f24 29 (by decide)) 21
    try have u24_8 : σ24 29 13 = σ18 29 13 := by first | exact o24 13 (by decide) | exact congrFun (f24 29 (by decide)) 13
    try have u24_9 : σ24 29 14 = σ18 29 14 := by first | exact o24 14 (by decide) | exact congrFun (f24 29 (by decide)) 14
    try have u24_10 : σ24 29 15 = σ18 29 15 := by first | exact o24 15 (by decide) | exact congrFun (f24 29 (by decide)) 15
    try have u24_11 : σ24 29 16 = σ18 29 16 := by first | exact o24 16 (by decide) | exact congrFun (f24 29 (by decide)) 16
    try have u24_12 : σ24 29 17 = σ18 29 17 := by first | exact o24 17 (by decide) | exact congrFun (f24 29 (by decide)) 17
    try have u24_13 : σ24 29 18 = σ18 29 18 := by first | exact o24 18 (by decide) | exact congrFun (f24 29 (by decide)) 18
    try have u24_14 : σ24 29 20 = σ18 29 20 := by first | exact o24 20 (by decide) | exact congrFun (f24 29 (by decide)) 20
    rw [← pe_q_c (m := m) (k := 65533) (by omega)] at x24
    have w24 := pe_gd_q.1 m 65533 hw
    have g24 := pe_gd_q.2.1 m 65533 hw hg
    have n24 := pe_gd_q.2.2.1 m 65533
    refine pe_aload_n d_M_within_27 rfl ?_
    refine pe_iload_n d_M_within_28 rfl ?_
    refine pe_iload_n d_M_within_29 rfl ?_
    refine pe_v2v d_M_within_30 c_M_200 i_M_plain s_M_plain rfl rfl (x_M_plain (s := pe_kx s b) hB x24 w24 (by omega) g24 ⟨O3.2, hs.2⟩ (by omega) (by omega) (by first | exact hB _ _ | exact hB0 _ _ | exact hBt _ _ | exact ⟨by omega, by omega⟩)) (fun σ30 hz30 => ?_)
    obtain ⟨hB, f30, o30, x30⟩ := hz30
    try have u30_0 : σ30 29 1 = σ24 29 1 := by first | exact o30 1 (by decide) | exact congrFun (f30 29 (by decide)) 1
    try have u30_1 : σ30 29 2 = σ24 29 2 := by first | exact o30 2 (by decide) | exact congrFun (f30 29 (by decide)) 2
    try have u30_2 : σ30 29 3 = σ24 29 3 := by first | exact o30 3 (by decide) | exact congrFun (f30 29 (by decide)) 3
    try have u30_3 : σ30 29 5 = σ24 29 5 := by first | exact o30 5 (by decide) | exact congrFun (f30 29 (by decide)) 5
    try have u30_4 : σ30 29 6 = σ24 29 6 := by first | exact o30 6 (by decide) | exact congrFun (f30 29 (by decide)) 6
    try have u30_5 : σ30 29 7 = σ24 29 7 := by first | exact o30 7 (by decide) | exact congrFun (f30 29 (by decide)) 7
    try have u30_6 : σ30 29 19 = σ24 29 19 := by first | exact o30 19 (by decide) | exact congrFun (f30 29 (by decide)) 19
    try have u30_7 : σ30 29 21 = σ24 29 21 := by first | exact o30 21 (by decide) | exact congrFun (f30 29 (by decide)) 21
    try have u30_8 : σ30 29 13 = σ24 29 13 := by first | exact o30 13 (by decide) | exact congrFun (f30 29 (by decide)) 13
    try have u30_9 : σ30 29 14 = σ24 29 14 := by first | exact o30 14 (by decide) | exact congrFun (f30 29 (by decide)) 14
    try have u30_10 : σ30 29 15 = σ24 29 15 := by first | exact o30 15 (by decide) | exact congrFun (f30 29 (by decide)) 15
    try have u30_11 : σ30 29 16 = σ24 29 16 := by first | exact o30 16 (by decide) | exact congrFun (f30 29 (by decide)) 16
    try have u30_12 : σ30 29 17 = σ24 29 17 := by first | exact o30 17 (by decide) | exact congrFun (f30 29 (by decide)) 17
    try have u30_13 : σ30 29 18 = σ24 29 18 := by first | exact o30 18 (by decide) | exact congrFun (f30 29 (by decide)) 18
    try have u30_14 : σ30 29 20 = σ24 29 20 := by first | exact o30 20 (by decide) | exact congrFun (f30 29 (by decide)) 20
    skip
    refine pe_rv d_M_within_33 ?_
    exact ⟨hB, (fun b hb => (f30 b (by simp at hb ⊢; try omega)).trans ((f24 b (by simp at hb ⊢; try omega)).trans ((f18 b (by simp at hb ⊢; try omega)).trans (rfl)))), (fun j hj => (o30 j (by simp at hj ⊢; try omega)).trans ((o24 j (by simp at hj ⊢; try omega)).trans ((o18 j (by simp at hj ⊢; try omega)).trans (rfl)))), by rw [pe_st_1 O3.1 rfl]; exact x30.1, x30.2⟩
  · skip
    refine pe_iload_n d_M_within_8 rfl ?_
    refine pe_aload_n d_M_within_9 rfl ?_
    refine pe_geti f_M_193 d_M_within_10 rfl rfl 18 rfl ?_
    refine pe_icmp_le (t := 34) d_M_within_13 (by first | exact hB _ _ | exact hB0 _ _ | exact hBt _ _ | exact ⟨by omega, by omega⟩) (by first | exact hB _ _ | exact hB0 _ _ | exact hBt _ _ | exact ⟨by omega, by omega⟩) (fun h13 => ?_) (fun h13 => ?_)
    · skip
      refine pe_aload_n d_M_within_34 rfl ?_
      refine pe_aload_n d_M_within_35 rfl ?_
      refine pe_geti f_M_187 d_M_within_36 rfl rfl 16 rfl ?_
      refine pe_bipush d_M_within_39 ?_
      refine pe_ishl d_M_within_41 (pe_shl6 (by omega) (by omega)) ?_
      refine pe_iload_n d_M_within_42 rfl ?_
      refine pe_bipush d_M_within_43 ?_
      refine pe_iand d_M_within_45 (pe_and 6 64 (by omega) (by omega)) ?_
      refine pe_ior d_M_within_46 (pe_or6 (by omega) (by omega) (by omega) (by omega)) ?_
      refine pe_putiT f_M_187 g_11_16 d_M_within_47 rfl rfl 16 rfl hB (by first | exact hB _ _ | exact hB0 _ _ | exact hBt _ _ | exact ⟨by omega, by omega⟩) (fun σ47 hB e47 o47 f47 => ?_)
      try have u47_0 : σ47 29 1 = σ 29 1 := by first | exact o47 1 (by decide) | exact congrFun (f47 29 (by decide)) 1
      try have u47_1 : σ47 29 2 = σ 29 2 := by first | exact o47 2 (by decide) | exact congrFun (f47 29 (by decide)) 2
      try have u47_2 : σ47 29 3 = σ 29 3 := by first | exact o47 3 (by decide) | exact congrFun (f47 29 (by decide)) 3
      try have u47_3 : σ47 29 5 = σ 29 5 := by first | exact o47 5 (by decide) | exact congrFun (f47 29 (by decide)) 5
      try have u47_4 : σ47 29 6 = σ 29 6 := by first | exact o47 6 (by decide) | exact congrFun (f47 29 (by decide)) 6
      try have u47_5 : σ47 29 7 = σ 29 7 := by first | exact o47 7 (by decide) | exact congrFun (f47 29 (by decide)) 7
      try have u47_6 : σ47 29 19 = σ 29 19 := by first | exact o47 19 (by decide) | exact congrFun (f47 29 (by decide)) 19
      try have u47_7 : σ47 29 21 = σ 29 21 := by first | exact o47 21 (by decide) | exact congrFun (f47 29 (by decide)) 21
      try have u47_8 : σ47 29 13 = σ 29 13 := by first | exact o47 13 (by decide) | exact congrFun (f47 29 (by decide)) 13
      try have u47_9 : σ47 29 14 = σ 29 14 := by first | exact o47 14 (by decide) | exact congrFun (f47 29 (by decide)) 14
      try have u47_10 : σ47 29 15 = σ 29 15 := by first | exact o47 15 (by decide) | exact congrFun (f47 29 (by decide)) 15
      try have u47_11 : σ47 29 16 = σ 29 16 := by first | exact o47 16 (by decide) | exact congrFun (f47 29 (by decide)) 16
      try have u47_12 : σ47 29 17 = σ 29 17 := by first | exact o47 17 (by decide) | exact congrFun (f47 29 (by decide)) 17
      try have u47_13 : σ47 29 18 = σ 29 18 := by first | exact o47 18 (by decide) | exact congrFun (f47 29 (by decide)) 18
      try have u47_14 : σ47 29 20 = σ 29 20 := by first | exact o47 20 (by decide) | exact congrFun (f47 29 (by decide)) 20
      refine pe_aload_n d_M_within_50 rfl ?_
      refine pe_sipush d_M_within_51 ?_
      refine pe_putiT f_M_190 g_11_17 d_M_within_54 rfl rfl 17 rfl hB (by first | exact hB _ _ | exact hB0 _ _ | exact hBt _ _ | exact ⟨by omega, by omega⟩) (fun σ54 hB e54 o54 f54 => ?_)
      try have u54_0 : σ54 29 1 = σ47 29 1 := by first | exact o54 1 (by decide) | exact congrFun (f54 29 (by decide)) 1
      try have u54_1 : σ54 29 2 = σ47 29 2 := by first | exact o54 2 (by decide) | exact congrFun (f54 29 (by decide)) 2
      try have u54_2 : σ54 29 3 = σ47 29 3 := by first | exact o54 3 (by decide) | exact congrFun (f54 29 (by decide)) 3
      try have u54_3 : σ54 29 5 = σ47 29 5 := by first | exact o54 5 (by decide) | exact congrFun (f54 29 (by decide)) 5
      try have u54_4 : σ54 29 6 = σ47 29 6 := by first | exact o54 6 (by decide) | exact congrFun (f54 29 (by decide)) 6
      try have u54_5 : σ54 29 7 = σ47 29 7 := by first | exact o54 7 (by decide) | exact congrFun (f54 29 (by decide)) 7
      try have u54_6 : σ54 29 19 = σ47 29 19 := by first | exact o54 19 (by decide) | exact congrFun (f54 29 (by decide)) 19
      try have u54_7 : σ54 29 21 = σ47 29 21 := by first | exact o54 21 (by decide) | exact congrFun (f54 29 (by decide)) 21
      try have u54_8 : σ54 29 13 = σ47 29 13 := by first | exact o54 13 (by decide) | exact congrFun (f54 29 (by decide)) 13
      try have u54_9 : σ54 29 14 = σ47 29 14 := by first | exact o54 14 (by decide) | exact congrFun (f54 29 (by decide)) 14
      try have u54_10 : σ54 29 15 = σ47 29 15 := by first | exact o54 15 (by decide) | exact congrFun (f54 29 (by decide)) 15
      try have u54_11 : σ54 29 16 = σ47 29 16 := by first | exact o54 16 (by decide) | exact congrFun (f54 29 (by decide)) 16
      try have u54_12 : σ54 29 17 = σ47 29 17 := by first | exact o54 17 (by decide) | exact congrFun (f54 29 (by decide)) 17
      try have u54_13 : σ54 29 18 = σ47 29 18 := by first | exact o54 18 (by decide) | exact congrFun (f54 29 (by decide)) 18
      try have u54_14 : σ54 29 20 = σ47 29 20 := by first | exact o54 20 (by decide) | exact congrFun (f54 29 (by decide)) 20
      refine pe_aload_n d_M_within_57 rfl ?_
      refine pe_sipush d_M_within_58 ?_
      refine pe_putiT f_M_193 g_11_18 d_M_within_61 rfl rfl 18 rfl hB (by first | exact hB _ _ | exact hB0 _ _ | exact hBt _ _ | exact ⟨by omega, by omega⟩) (fun σ61 hB e61 o61 f61 => ?_)
      try have u61_0 : σ61 29 1 = σ54 29 1 := by first | exact o61 1 (by decide) | exact congrFun (f61 29 (by decide)) 1
      try have u61_1 : σ61 29 2 = σ54 29 2 := by first | exact o61 2 (by decide) | exact congrFun (f61 29 (by decide)) 2
      try have u61_2 : σ61 29 3 = σ54 29 3 := by first | exact o61 3 (by decide) | exact congrFun (f61 29 (by decide)) 3
      try have u61_3 : σ61 29 5 = σ54 29 5 := by first | exact o61 5 (by decide) | exact congrFun (f61 29 (by decide)) 5
      try have u61_4 : σ61 29 6 = σ54 29 6 := by first | exact o61 6 (by decide) | exact congrFun (f61 29 (by decide)) 6
      try have u61_5 : σ61 29 7 = σ54 29 7 := by first | exact o61 7 (by decide) | exact congrFun (f61 29 (by decide)) 7
      try have u61_6 : σ61 29 19 = σ54 29 19 := by first | exact o61 19 (by decide) | exact congrFun (f61 29 (by decide)) 19
      try have u61_7 : σ61 29 21 = σ54 29 21 := by first | exact o61 21 (by decide) | exact congrFun (f61 29 (by decide)) 21
      try have u61_8 : σ61 29 13 = σ54 29 13 := by first | exact o61 13 (by decide) | exact congrFun (f61 29 (by decide)) 13
      try have u61_9 : σ61 29 14 = σ54 29 14 := by first | exact o61 14 (by decide) | exact congrFun (f61 29 (by decide)) 14
      try have u61_10 : σ61 29 15 = σ54 29 15 := by first | exact o61 15 (by decide) | exact congrFun (f61 29 (by decide)) 15
      try have u61_11 : σ61 29 16 = σ54 29 16 := by first | exact o61 16 (by decide) | exact congrFun (f61 29 (by decide)) 16
      try have u61_12 : σ61 29 17 = σ54 29 17 := by first | exact o61 17 (by decide) | exact congrFun (f61 29 (by decide)) 17
      try have u61_13 : σ61 29 18 = σ54 29 18 := by first | exact o61 18 (by decide) | exact congrFun (f61 29 (by decide)) 18
      try have u61_14 : σ61 29 20 = σ54 29 20 := by first | exact o61 20 (by decide) | exact congrFun (f61 29 (by decide)) 20
      refine pe_aload_n d_M_within_64 rfl ?_
      refine pe_dup d_M_within_65 ?_
      refine pe_geti f_M_184 d_M_within_66 rfl rfl 15 rfl ?_
      refine pe_iconst d_M_within_69 ?_
      refine pe_isub d_M_within_70 ?_
      refine pe_putiT f_M_184 g_11_15 d_M_within_71 rfl rfl 15 rfl hB (by first | exact hB _ _ | exact hB0 _ _ | exact hBt _ _ | exact ⟨by omega, by omega⟩) (fun σ71 hB e71 o71 f71 => ?_)
      try have u71_0 : σ71 29 1 = σ61 29 1 := by first | exact o71 1 (by decide) | exact congrFun (f71 29 (by decide)) 1
      try have u71_1 : σ71 29 2 = σ61 29 2 := by first | exact o71 2 (by decide) | exact congrFun (f71 29 (by decide)) 2
      try have u71_2 : σ71 29 3 = σ61 29 3 := by first | exact o71 3 (by decide) | exact congrFun (f71 29 (by decide)) 3
      try have u71_3 : σ71 29 5 = σ61 29 5 := by first | exact o71 5 (by decide) | exact congrFun (f71 29 (by decide)) 5
      try have u71_4 : σ71 29 6 = σ61 29 6 := by first | exact o71 6 (by decide) | exact congrFun (f71 29 (by decide)) 6
      try have u71_5 : σ71 29 7 = σ61 29 7 := by first | exact o71 7 (by decide) | exact congrFun (f71 29 (by decide)) 7
      try have u71_6 : σ71 29 19 = σ61 29 19 := by first | exact o71 19 (by decide) | exact congrFun (f71 29 (by decide)) 19
      try have u71_7 : σ71 29 21 = σ61 29 21 := by first | exact o71 21 (by decide) | exact congrFun (f71 29 (by decide)) 21
      try have u71_8 : σ71 29 13 = σ61 29 13 := by first | exact o71 13 (by decide) | exact congrFun (f71 29 (by decide)) 13
      try have u71_9 : σ71 29 14 = σ61 29 14 := by first | exact o71 14 (by decide) | exact congrFun (f71 29 (by decide)) 14
      try have u71_10 : σ71 29 15 = σ61 29 15 := by first | exact o71 15 (by decide) | exact congrFun (f71 29 (by decide)) 15
      try have u71_11 : σ71 29 16 = σ61 29 16 := by first | exact o71 16 (by decide) | exact congrFun (f71 29 (by decide)) 16
      try have u71_12 : σ71 29 17 = σ61 29 17 := by first | exact o71 17 (by decide) | exact congrFun (f71 29 (by decide)) 17
      try have u71_13 : σ71 29 18 = σ61 29 18 := by first | exact o71 18 (by decide) | exact congrFun (f71 29 (by decide)) 18
      try have u71_14 : σ71 29 20 = σ61 29 20 := by first | exact o71 20 (by decide) | exact congrFun (f71 29 (by decide)) 20
      have hA2 := pe_ra_f hA (fun b hb => ((f71 b (by rintro rfl; simp at hb)).trans ((f61 b (by rintro rfl; simp at hb)).trans ((f54 b (by rintro rfl; simp at hb)).trans (f47 b (by rintro rfl; simp at hb)))))) (fun j hj => ((o71 j (by rintro rfl; simp at hj)).trans ((o61 j (by rintro rfl; simp at hj)).trans ((o54 j (by rintro rfl; simp at hj)).trans (o47 j (by rintro rfl; simp at hj))))))
      have I3 := pe_3_in hs.1 (by omega : ¬ (b < s 4 ∨ s 5 < b))
      have cc : σ71 29 16 = s 2 * 64 + b % 64 := by omega
      refine pe_aload_n d_M_within_74 rfl ?_
      refine pe_geti f_M_184 d_M_within_75 rfl rfl 15 rfl ?_
      refine pe_if_ne (t := 109) d_M_within_78 (by first | exact hB _ _ | exact hB0 _ _ | exact hBt _ _ | exact ⟨by omega, by omega⟩) (fun h78 => ?_) (fun h78 => ?_)
      · skip
        refine pe_rv d_M_within_109 ?_
        first
        | (exfalso; omega)
        | exact ⟨hB, (fun b hb => (f71 b (by simp at hb ⊢; try omega)).trans ((f61 b (by simp at hb ⊢; try omega)).trans ((f54 b (by simp at hb ⊢; try omega)).trans ((f47 b (by simp at hb ⊢; try omega)).trans (rfl))))), (fun j hj => (o71 j (by simp at hj ⊢; try omega)).trans ((o61 j (by simp at hj ⊢; try omega)).trans ((o54 j (by simp at hj ⊢; try omega)).trans ((o47 j (by simp at hj ⊢; try omega)).trans (rfl))))), by rw [pe_st_1 I3.1 (I3.2.2.trans (if_neg (by omega))), pe_q_n1, pe_q_c (by omega)]; exact x106, pe_rk_3 hkw hs.1 (by omega) (by omega)⟩
        | exact ⟨hB, (fun b hb => (f71 b (by simp at hb ⊢; try omega)).trans ((f61 b (by simp at hb ⊢; try omega)).trans ((f54 b (by simp at hb ⊢; try omega)).trans ((f47 b (by simp at hb ⊢; try omega)).trans (rfl))))), (fun j hj => (o71 j (by simp at hj ⊢; try omega)).trans ((o61 j (by simp at hj ⊢; try omega)).trans ((o54 j (by simp at hj ⊢; try omega)).trans ((o47 j (by simp at hj ⊢; try omega)).trans (rfl))))), by rw [pe_st_1 I3.1 (I3.2.2.trans (if_pos (by omega))), pe_q_n1, pe_q_n1]; exact hA2, pe_rk_3 hkw hs.1 (by omega) (by omega)⟩
      · skip
        refine pe_aload_n d_M_within_81 rfl ?_
        refine pe_geti f_M_187 d_M_within_82 rfl rfl 16 rfl ?_
        refine pe_sipush d_M_within_85 ?_
        refine pe_icmp_lt (t := 101) d_M_within_88 (by first | exact hB _ _ | exact hB0 _ _ | exact hBt _ _ | exact ⟨by omega, by omega⟩) (by first | exact hB _ _ | exact hB0 _ _ | exact hBt _ _ | exact ⟨by omega, by omega⟩) (fun h88 => ?_) (fun h88 => ?_)
        · skip
          refine pe_aload_n d_M_within_101 rfl ?_
          refine pe_aload_n d_M_within_102 rfl ?_
          refine pe_geti f_M_187 d_M_within_103 rfl rfl 16 rfl ?_
          refine pe_v1v d_M_within_106 c_M_144 i_M_character s_M_character rfl rfl (x_M_character hB hA2 hw hk1 hg (by first | exact hB _ _ | exact hB0 _ _ | exact hBt _ _ | exact ⟨by omega, by omega⟩)) (fun σ106 hz106 => ?_)
          obtain ⟨hB, f106, o106, x106⟩ := hz106
          try have u106_0 : σ106 29 1 = σ71 29 1 := by first | exact o106 1 (by decide) | exact congrFun (f106 29 (by decide)) 1
          try have u106_1 : σ106 29 2 = σ71 29 2 := by first | exact o106 2 (by decide) | exact congrFun (f106 29 (by decide)) 2
          try have u106_2 : σ106 29 3 = σ71 29 3 := by first | exact o106 3 (by decide) | exact congrFun (f106 29 (by decide)) 3
          try have u106_3 : σ106 29 5 = σ71 29 5 := by first | exact o106 5 (by decide) | exact congrFun (f106 29 (by decide)) 5
          try have u106_4 : σ106 29 6 = σ71 29 6 := by first | exact o106 6 (by decide) | exact congrFun (f106 29 (by decide)) 6
          try have u106_5 : σ106 29 7 = σ71 29 7 := by first | exact o106 7 (by decide) | exact congrFun (f106 29 (by decide)) 7
          try have u106_6 : σ106 29 19 = σ71 29 19 := by first | exact o106 19 (by decide) | exact congrFun (f106 29 (by decide)) 19
          try have u106_7 : σ106 29 21 = σ71 29 21 := by first | exact o106 21 (by decide) | exact congrFun (f106 29 (by decide)) 21
          try have u106_8 : σ106 29 13 = σ71 29 13 := by first | exact o106 13 (by decide) | exact congrFun (f106 29 (by decide)) 13
          try have u106_9 : σ106 29 14 = σ71 29 14 := by first | exact o106 14 (by decide) | exact congrFun (f106 29 (by decide)) 14
          try have u106_10 : σ106 29 15 = σ71 29 15 := by first | exact o106 15 (by decide) | exact congrFun (f106 29 (by decide)) 15
          try have u106_11 : σ106 29 16 = σ71 29 16 := by first | exact o106 16 (by decide) | exact congrFun (f106 29 (by decide)) 16
          try have u106_12 : σ106 29 17 = σ71 29 17 := by first | exact o106 17 (by decide) | exact congrFun (f106 29 (by decide)) 17
          try have u106_13 : σ106 29 18 = σ71 29 18 := by first | exact o106 18 (by decide) | exact congrFun (f106 29 (by decide)) 18
          try have u106_14 : σ106 29 20 = σ71 29 20 := by first | exact o106 20 (by decide) | exact congrFun (f106 29 (by decide)) 20
          rw [cc] at x106
          refine pe_rv d_M_within_109 ?_
          first
          | (exfalso; omega)
          | exact ⟨hB, (fun b hb => (f106 b (by simp at hb ⊢; try omega)).trans ((f71 b (by simp at hb ⊢; try omega)).trans ((f61 b (by simp at hb ⊢; try omega)).trans ((f54 b (by simp at hb ⊢; try omega)).trans ((f47 b (by simp at hb ⊢; try omega)).trans (rfl)))))), (fun j hj => (o106 j (by simp at hj ⊢; try omega)).trans ((o71 j (by simp at hj ⊢; try omega)).trans ((o61 j (by simp at hj ⊢; try omega)).trans ((o54 j (by simp at hj ⊢; try omega)).trans ((o47 j (by simp at hj ⊢; try omega)).trans (rfl)))))), by rw [pe_st_1 I3.1 (I3.2.2.trans (if_neg (by omega))), pe_q_n1, pe_q_c (by omega)]; exact x106, pe_rk_3 hkw hs.1 (by omega) (by omega)⟩
          | exact ⟨hB, (fun b hb => (f106 b (by simp at hb ⊢; try omega)).trans ((f71 b (by simp at hb ⊢; try omega)).trans ((f61 b (by simp at hb ⊢; try omega)).trans ((f54 b (by simp at hb ⊢; try omega)).trans ((f47 b (by simp at hb ⊢; try omega)).trans (rfl)))))), (fun j hj => (o106 j (by simp at hj ⊢; try omega)).trans ((o71 j (by simp at hj ⊢; try omega)).trans ((o61 j (by simp at hj ⊢; try omega)).trans ((o54 j (by simp at hj ⊢; try omega)).trans ((o47 j (by simp at hj ⊢; try omega)).trans (rfl)))))), by rw [pe_st_1 I3.1 (I3.2.2.trans (if_pos (by omega))), pe_q_n1, pe_q_n1]; exact hA2, pe_rk_3 hkw hs.1 (by omega) (by omega)⟩
        · skip
          refine pe_aload_n d_M_within_91 rfl ?_
          refine pe_geti f_M_187 d_M_within_92 rfl rfl 16 rfl ?_
          refine pe_sipush d_M_within_95 ?_
          refine pe_icmp_le (t := 109) d_M_within_98 (by first | exact hB _ _ | exact hB0 _ _ | exact hBt _ _ | exact ⟨by omega, by omega⟩) (by first | exact hB _ _ | exact hB0 _ _ | exact hBt _ _ | exact ⟨by omega, by omega⟩) (fun h98 => ?_) (fun h98 => ?_)
          · skip
            refine pe_rv d_M_within_109 ?_
            first
            | (exfalso; omega)
            | exact ⟨hB, (fun b hb => (f71 b (by simp at hb ⊢; try omega)).trans ((f61 b (by simp at hb ⊢; try omega)).trans ((f54 b (by simp at hb ⊢; try omega)).trans ((f47 b (by simp at hb ⊢; try omega)).trans (rfl))))), (fun j hj => (o71 j (by simp at hj ⊢; try omega)).trans ((o61 j (by simp at hj ⊢; try omega)).trans ((o54 j (by simp at hj ⊢; try omega)).trans ((o47 j (by simp at hj ⊢; try omega)).trans (rfl))))), by rw [pe_st_1 I3.1 (I3.2.2.trans (if_neg (by omega))), pe_q_n1, pe_q_c (by omega)]; exact x106, pe_rk_3 hkw hs.1 (by omega) (by omega)⟩
            | exact ⟨hB, (fun b hb => (f71 b (by simp at hb ⊢; try omega)).trans ((f61 b (by simp at hb ⊢; try omega)).trans ((f54 b (by simp at hb ⊢; try omega)).trans ((f47 b (by simp at hb ⊢; try omega)).trans (rfl))))), (fun j hj => (o71 j (by simp at hj ⊢; try omega)).trans ((o61 j (by simp at hj ⊢; try omega)).trans ((o54 j (by simp at hj ⊢; try omega)).trans ((o47 j (by simp at hj ⊢; try omega)).trans (rfl))))), by rw [pe_st_1 I3.1 (I3.2.2.trans (if_pos (by omega))), pe_q_n1, pe_q_n1]; exact hA2, pe_rk_3 hkw hs.1 (by omega) (by omega)⟩
          · skip
            refine pe_aload_n d_M_within_101 rfl ?_
            refine pe_aload_n d_M_within_102 rfl ?_
            refine pe_geti f_M_187 d_M_within_103 rfl rfl 16 rfl ?_
            refine pe_v1v d_M_within_106 c_M_144 i_M_character s_M_character rfl rfl (x_M_character hB hA2 hw hk1 hg (by first | exact hB _ _ | exact hB0 _ _ | exact hBt _ _ | exact ⟨by omega, by omega⟩)) (fun σ106 hz106 => ?_)
            obtain ⟨hB, f106, o106, x106⟩ := hz106
            try have u106_0 : σ106 29 1 = σ71 29 1 := by first | exact o106 1 (by decide) | exact congrFun (f106 29 (by decide)) 1
            try have u106_1 : σ106 29 2 = σ71 29 2 := by first | exact o106 2 (by decide) | exact congrFun (f106 29 (by decide)) 2
            try have u106_2 : σ106 29 3 = σ71 29 3 := by first | exact o106 3 (by decide) | exact congrFun (f106 29 (by decide)) 3
            try have u106_3 : σ106 29 5 = σ71 29 5 := by first | exact o106 5 (by decide) | exact congrFun (f106 29 (by decide)) 5
            try have u106_4 : σ106 29 6 = σ71 29 6 := by first | exact o106 6 (by decide) | exact congrFun (f106 29 (by decide)) 6
            try have u106_5 : σ106 29 7 = σ71 29 7 := by first | exact o106 7 (by decide) | exact congrFun (f106 29 (by decide)) 7
            try have u106_6 : σ106 29 19 = σ71 29 19 := by first | exact o106 19 (by decide) | exact congrFun (f106 29 (by decide)) 19
            try have u106_7 : σ106 29 21 = σ71 29 21 := by first | exact o106 21 (by decide) | exact congrFun (f106 29 (by decide)) 21
            try have u106_8 : σ106 29 13 = σ71 29 13 := by first | exact o106 13 (by decide) | exact congrFun (f106 29 (by decide)) 13
            try have u106_9 : σ106 29 14 = σ71 29 14 := by first | exact o106 14 (by decide) | exact congrFun (f106 29 (by decide)) 14
            try have u106_10 : σ106 29 15 = σ71 29 15 := by first | exact o106 15 (by decide) | exact congrFun (f106 29 (by decide)) 15
            try have u106_11 : σ106 29 16 = σ71 29 16 := by first | exact o106 16 (by decide) | exact congrFun (f106 29 (by decide)) 16
            try have u106_12 : σ106 29 17 = σ71 29 17 := by first | exact o106 17 (by decide) | exact congrFun (f106 29 (by decide)) 17
            try have u106_13 : σ106 29 18 = σ71 29 18 := by first | exact o106 18 (by decide) | exact congrFun (f106 29 (by decide)) 18
            try have u106_14 : σ106 29 20 = σ71 29 20 := by first | exact o106 20 (by decide) | exact congrFun (f106 29 (by decide)) 20
            rw [cc] at x106
            refine pe_rv d_M_within_109 ?_
            first
            | (exfalso; omega)
            | exact ⟨hB, (fun b hb => (f106 b (by simp at hb ⊢; try omega)).trans ((f71 b (by simp at hb ⊢; try omega)).trans ((f61 b (by simp at hb ⊢; try omega)).trans ((f54 b (by simp at hb ⊢; try omega)).trans ((f47 b (by simp at hb ⊢; try omega)).trans (rfl)))))), (fun j hj => (o106 j (by simp at hj ⊢; try omega)).trans ((o71 j (by simp at hj ⊢; try omega)).trans ((o61 j (by simp at hj ⊢; try omega)).trans ((o54 j (by simp at hj ⊢; try omega)).trans ((o47 j (by simp at hj ⊢; try omega)).trans (rfl)))))), by rw [pe_st_1 I3.1 (I3.2.2.trans (if_neg (by omega))), pe_q_n1, pe_q_c (by omega)]; exact x106, pe_rk_3 hkw hs.1 (by omega) (by omega)⟩
            | exact ⟨hB, (fun b hb => (f106 b (by simp at hb ⊢; try omega)).trans ((f71 b (by simp at hb ⊢; try omega)).trans ((f61 b (by simp at hb ⊢; try omega)).trans ((f54 b (by simp at hb ⊢; try omega)).trans ((f47 b (by simp at hb ⊢; try omega)).trans (rfl)))))), (fun j hj => (o106 j (by simp at hj ⊢; try omega)).trans ((o71 j (by simp at hj ⊢; try omega)).trans ((o61 j (by simp at hj ⊢; try omega)).trans ((o54 j (by simp at hj ⊢; try omega)).trans ((o47 j (by simp at hj ⊢; try omega)).trans (rfl)))))), by rw [pe_st_1 I3.1 (I3.2.2.trans (if_pos (by omega))), pe_q_n1, pe_q_n1]; exact hA2, pe_rk_3 hkw hs.1 (by omega) (by omega)⟩
    · skip
      refine pe_aload_n d_M_within_16 rfl ?_
      refine pe_iconst d_M_within_17 ?_
      refine pe_putiT f_M_184 g_11_15 d_M_within_18 rfl rfl 15 rfl hB (by first | exact hB _ _ | exact hB0 _ _ | exact hBt _ _ | exact ⟨by omega, by omega⟩) (fun σ18 hB e18 o18 f18 => ?_)
      try have u18_0 : σ18 29 1 = σ 29 1 := by first | exact o18 1 (by decide) | exact congrFun (f18 29 (by decide)) 1
      try have u18_1 : σ18 29 2 = σ 29 2 := by first | exact o18 2 (by decide) | exact congrFun (f18 29 (by decide)) 2
      try have u18_2 : σ18 29 3 = σ 29 3 := by first | exact o18 3 (by decide) | exact congrFun (f18 29 (by decide)) 3
      try have u18_3 : σ18 29 5 = σ 29 5 := by first | exact o18 5 (by decide) | exact congrFun (f18 29 (by decide)) 5
      try have u18_4 : σ18 29 6 = σ 29 6 := by first | exact o18 6 (by decide) | exact congrFun (f18 29 (by decide)) 6
      try have u18_5 : σ18 29 7 = σ 29 7 := by first | exact o18 7 (by decide) | exact congrFun (f18 29 (by decide)) 7
      try have u18_6 : σ18 29 19 = σ 29 19 := by first | exact o18 19 (by decide) | exact congrFun (f18 29 (by decide)) 19
      try have u18_7 : σ18 29 21 = σ 29 21 := by first | exact o18 21 (by decide) | exact congrFun (f18 29 (by decide)) 21
      try have u18_8 : σ18 29 13 = σ 29 13 := by first | exact o18 13 (by decide) | exact congrFun (f18 29 (by decide)) 13
      try have u18_9 : σ18 29 14 = σ 29 14 := by first | exact o18 14 (by decide) | exact congrFun (f18 29 (by decide)) 14
      try have u18_10 : σ18 29 15 = σ 29 15 := by first | exact o18 15 (by decide) | exact congrFun (f18 29 (by decide)) 15
      try have u18_11 : σ18 29 16 = σ 29 16 := by first | exact o18 16 (by decide) | exact congrFun (f18 29 (by decide)) 16
      try have u18_12 : σ18 29 17 = σ 29 17 := by first | exact o18 17 (by decide) | exact congrFun (f18 29 (by decide)) 17
      try have u18_13 : σ18 29 18 = σ 29 18 := by first | exact o18 18 (by decide) | exact congrFun (f18 29 (by decide)) 18
      try have u18_14 : σ18 29 20 = σ 29 20 := by first | exact o18 20 (by decide) | exact congrFun (f18 29 (by decide)) 20
      have hA1 := pe_ra_f hA (fun b hb => (f18 b (by rintro rfl; simp at hb))) (fun j hj => (o18 j (by rintro rfl; simp at hj)))
      have O3 := pe_3_out hs.1 (by omega : b < s 4 ∨ s 5 < b)
      refine pe_aload_n d_M_within_21 rfl ?_
      refine pe_ldc q_M_196 d_M_within_22 (z := 65533) rfl ?_
      refine pe_v1v d_M_within_24 c_M_144 i_M_character s_M_character rfl rfl (x_M_character hB hA1 hw hk1 hg (by first | exact hB _ _ | exact hB0 _ _ | exact hBt _ _ | exact ⟨by omega, by omega⟩)) (fun σ24 hz24 => ?_)
      obtain ⟨hB, f24, o24, x24⟩ := hz24
      try have u24_0 : σ24 29 1 = σ18 29 1 := by first | exact o24 1 (by decide) | exact congrFun (f24 29 (by decide)) 1
      try have u24_1 : σ24 29 2 = σ18 29 2 := by first | exact o24 2 (by decide) | exact congrFun (f24 29 (by decide)) 2
      try have u24_2 : σ24 29 3 = σ18 29 3 := by first | exact o24 3 (by decide) | exact congrFun (f24 29 (by decide)) 3
      try have u24_3 : σ24 29 5 = σ18 29 5 := by first | exact o24 5 (by decide) | exact congrFun (f24 29 (by decide)) 5
      try have u24_4 : σ24 29 6 = σ18 29 6 := by first | exact o24 6 (by decide) | exact congrFun (f24 29 (by decide)) 6
      try have u24_5 : σ24 29 7 = σ18 29 7 := by first | exact o24 7 (by decide) | exact congrFun (f24 29 (by decide)) 7
      try have u24_6 : σ24 29 19 = σ18 29 19 := by first | exact o24 19 (by decide) | exact congrFun (f24 29 (by decide)) 19
      try have u24_7 : σ24 29 21 = σ18 29 21 := by first | exact o24 21 (by decide) | exact congrFun (f24 29 (by decide)) 21
      try have u24_8 : σ24 29 13 = σ18 29 13 := by first | exact o24 13 (by decide) | exact congrFun (f24 29 (by decide)) 13
      try have u24_9 : σ24 29 14 = σ18 29 14 := by first | exact o24 14 (by decide) | exact congrFun (f24 29 (by decide)) 14
      try have u24_10 : σ24 29 15 = σ18 29 15 := by first | exact o24 15 (by decide) | exact congrFun (f24 29 (by decide)) 15
      try have u24_11 : σ24 29 16 = σ18 29 16 := by first | exact o24 16 (by decide) | exact congrFun (f24 29 (by decide)) 16
      try have u24_12 : σ24 29 17 = σ18 29 17 := by first | exact o24 17 (by decide) | exact congrFun (f24 29 (by decide)) 17
      try have u24_13 : σ24 29 18 = σ18 29 18 := by first | exact o24 18 (by decide) | exact congrFun (f24 29 (by decide)) 18
      try have u24_14 : σ24 29 20 = σ18 29 20 := by first | exact o24 20 (by decide) | exact congrFun (f24 29 (by decide)) 20
      rw [← pe_q_c (m := m) (k := 65533) (by omega)] at x24
      have w24 := pe_gd_q.1 m 65533 hw
      have g24 := pe_gd_q.2.1 m 65533 hw hg
      have n24 := pe_gd_q.2.2.1 m 65533
      refine pe_aload_n d_M_within_27 rfl ?_
      refine pe_iload_n d_M_within_28 rfl ?_
      refine pe_iload_n d_M_within_29 rfl ?_
      refine pe_v2v d_M_within_30 c_M_200 i_M_plain s_M_plain rfl rfl (x_M_plain (s := pe_kx s b) hB x24 w24 (by omega) g24 ⟨O3.2, hs.2⟩ (by omega) (by omega) (by first | exact hB _ _ | exact hB0 _ _ | exact hBt _ _ | exact ⟨by omega, by omega⟩)) (fun σ30 hz30 => ?_)
      obtain ⟨hB, f30, o30, x30⟩ := hz30
      try have u30_0 : σ30 29 1 = σ24 29 1 := by first | exact o30 1 (by decide) | exact congrFun (f30 29 (by decide)) 1
      try have u30_1 : σ30 29 2 = σ24 29 2 := by first | exact o30 2 (by decide) | exact congrFun (f30 29 (by decide)) 2
      try have u30_2 : σ30 29 3 = σ24 29 3 := by first | exact o30 3 (by decide) | exact congrFun (f30 29 (by decide)) 3
      try have u30_3 : σ30 29 5 = σ24 29 5 := by first | exact o30 5 (by decide) | exact congrFun (f30 29 (by decide)) 5
      try have u30_4 : σ30 29 6 = σ24 29 6 := by first | exact o30 6 (by decide) | exact congrFun (f30 29 (by decide)) 6
      try have u30_5 : σ30 29 7 = σ24 29 7 := by first | exact o30 7 (by decide) | exact congrFun (f30 29 (by decide)) 7
      try have u30_6 : σ30 29 19 = σ24 29 19 := by first | exact o30 19 (by decide) | exact congrFun (f30 29 (by decide)) 19
      try have u30_7 : σ30 29 21 = σ24 29 21 := by first | exact o30 21 (by decide) | exact congrFun (f30 29 (by decide)) 21
      try have u30_8 : σ30 29 13 = σ24 29 13 := by first | exact o30 13 (by decide) | exact congrFun (f30 29 (by decide)) 13
      try have u30_9 : σ30 29 14 = σ24 29 14 := by first | exact o30 14 (by decide) | exact congrFun (f30 29 (by decide)) 14
      try have u30_10 : σ30 29 15 = σ24 29 15 := by first | exact o30 15 (by decide) | exact congrFun (f30 29 (by decide)) 15
      try have u30_11 : σ30 29 16 = σ24 29 16 := by first | exact o30 16 (by decide) | exact congrFun (f30 29 (by decide)) 16
      try have u30_12 : σ30 29 17 = σ24 29 17 := by first | exact o30 17 (by decide) | exact congrFun (f30 29 (by decide)) 17
      try have u30_13 : σ30 29 18 = σ24 29 18 := by first | exact o30 18 (by decide) | exact congrFun (f30 29 (by decide)) 18
      try have u30_14 : σ30 29 20 = σ24 29 20 := by first | exact o30 20 (by decide) | exact congrFun (f30 29 (by decide)) 20
      skip
      refine pe_rv d_M_within_33 ?_
      exact ⟨hB, (fun b hb => (f30 b (by simp at hb ⊢; try omega)).trans ((f24 b (by simp at hb ⊢; try omega)).trans ((f18 b (by simp at hb ⊢; try omega)).trans (rfl)))), (fun j hj => (o30 j (by simp at hj ⊢; try omega)).trans ((o24 j (by simp at hj ⊢; try omega)).trans ((o18 j (by simp at hj ⊢; try omega)).trans (rfl)))), by rw [pe_st_1 O3.1 rfl]; exact x30.1, x30.2⟩
theorem x_M_inSequence {m σ : pe_H} {s : Int → Int} {b a : Int} (hB : pe_B σ) (hA : pe_ra m σ) (hw : pe_wf m) (hk : m 5 0 ≤ 10) (hg : pe_bg (m 8) (m 0 0) (m 1 0)) (hkw : pe_kw s) (hs : s 0 = 2 ∧ s 6 = a) (hkb : σ 29 13 = 2 ∧ σ 29 15 = 0 ∧ σ 29 14 = s 1 ∧ σ 29 20 = b) (hb : 0 ≤ b ∧ b ≤ 255) (ha : pe_R a) : pe_M m_M_inSequence [pe_r 29, pe_i b, pe_i a] σ (pe_qv (fun σ' => pe_B σ' ∧ (∀ b, b ∉ [29, 30, 32, 33, 34, 35, 36, 31, 37, 38, 39] → σ' b = σ b) ∧ (∀ j, j ∉ ([1, 2, 3, 5, 6, 7, 13, 14, 15, 16, 17, 18, 19, 26, 41] : List Int) → σ' 29 j = σ 29 j) ∧ (pe_ra (pe_st pe_ePq (m, s) b).1 σ' ∧ pe_rk (pe_ky (pe_kx s b) b) σ'))) := by
  refine pe_in0 (lv := [some (pe_r 29), some (pe_i b), some (pe_i a)]) ?_
  have hB0 := hB
  obtain ⟨⟨⟨a1, a2, a3, a4, a5⟩, a7, a8, a9⟩, A2, A3, A4⟩ := id hA
  obtain ⟨⟨w1, w2, w3, w4, w5, w6, w7, w8⟩, W2, W3⟩ := id hw
  have hk1 : m 5 0 ≤ 11 := by omega
  have KW := hkw
  unfold pe_kw at KW
  refine pe_iload_n d_M_inSequence_0 rfl ?_
  refine pe_bipush d_M_inSequence_1 ?_
  refine pe_icmp_lt (t := 55) d_M_inSequence_3 (by first | exact hB _ _ | exact hB0 _ _ | exact hBt _ _ | exact ⟨by omega, by omega⟩) (by first | exact hB _ _ | exact hB0 _ _ | exact hBt _ _ | exact ⟨by omega, by omega⟩) (fun h3 => ?_) (fun h3 => ?_)
  · skip
    refine pe_iload_n d_M_inSequence_55 rfl ?_
    refine pe_bipush d_M_inSequence_56 ?_
    refine pe_icmp_lt (t := 80) d_M_inSequence_58 (by first | exact hB _ _ | exact hB0 _ _ | exact hBt _ _ | exact ⟨by omega, by omega⟩) (by first | exact hB _ _ | exact hB0 _ _ | exact hBt _ _ | exact ⟨by omega, by omega⟩) (fun h58 => ?_) (fun h58 => ?_)
    · skip
      refine pe_aload_n d_M_inSequence_80 rfl ?_
      refine pe_iconst d_M_inSequence_81 ?_
      refine pe_putiT f_M_181 g_11_13 d_M_inSequence_82 rfl rfl 13 rfl hB (by first | exact hB _ _ | exact hB0 _ _ | exact hBt _ _ | exact ⟨by omega, by omega⟩) (fun σ82 hB e82 o82 f82 => ?_)
      try have u82_0 : σ82 29 1 = σ 29 1 := by first | exact o82 1 (by decide) | exact congrFun (f82 29 (by decide)) 1
      try have u82_1 : σ82 29 2 = σ 29 2 := by first | exact o82 2 (by decide) | exact congrFun (f82 29 (by decide)) 2
      try have u82_2 : σ82 29 3 = σ 29 3 := by first | exact o82 3 (by decide) | exact congrFun (f82 29 (by decide)) 3
      try have u82_3 : σ82 29 5 = σ 29 5 := by first | exact o82 5 (by decide) | exact congrFun (f82 29 (by decide)) 5
      try have u82_4 : σ82 29 6 = σ 29 6 := by first | exact o82 6 (by decide) | exact congrFun (f82 29 (by decide)) 6
      try have u82_5 : σ82 29 7 = σ 29 7 := by first | exact o82 7 (by decide) | exact congrFun (f82 29 (by decide)) 7
      try have u82_6 : σ82 29 19 = σ 29 19 := by first | exact o82 19 (by decide) | exact congrFun (f82 29 (by decide)) 19
      try have u82_7 : σ82 29 21 = σ 29 21 := by first | exact o82 21 (by decide) | exact congrFun (f82 29 (by decide)) 21
      try have u82_8 : σ82 29 13 = σ 29 13 := by first | exact o82 13 (by decide) | exact congrFun (f82 29 (by decide)) 13
      try have u82_9 : σ82 29 14 = σ 29 14 := by first | exact o82 14 (by decide) | exact congrFun (f82 29 (by decide)) 14
      try have u82_10 : σ82 29 15 = σ 29 15 := by first | exact o82 15 (by decide) | exact congrFun (f82 29 (by decide)) 15
      try have u82_11 : σ82 29 16 = σ 29 16 := by first | exact o82 16 (by decide) | exact congrFun (f82 29 (by decide)) 16
      try have u82_12 : σ82 29 17 = σ 29 17 := by first | exact o82 17 (by decide) | exact congrFun (f82 29 (by decide)) 17
      try have u82_13 : σ82 29 18 = σ 29 18 := by first | exact o82 18 (by decide) | exact congrFun (f82 29 (by decide)) 18
      try have u82_14 : σ82 29 20 = σ 29 20 := by first | exact o82 20 (by decide) | exact congrFun (f82 29 (by decide)) 20
      have hA1 := pe_ra_f hA (fun b hb => (f82 b (by rintro rfl; simp at hb))) (fun j hj => (o82 j (by rintro rfl; simp at hj)))
      have O2 := pe_2_out hs.1 (by omega : ¬ (48 ≤ b ∧ b ≤ 57) ∧ ¬ (64 ≤ b ∧ b ≤ 126))
      refine pe_aload_n d_M_inSequence_85 rfl ?_
      refine pe_iload_n d_M_inSequence_86 rfl ?_
      refine pe_iload_n d_M_inSequence_87 rfl ?_
      refine pe_v2v d_M_inSequence_88 c_M_200 i_M_plain s_M_plain rfl rfl (x_M_plain (s := pe_kx s b) hB hA1 hw (by omega) hg ⟨O2.2, hs.2⟩ (by omega) (by omega) (by first | exact hB _ _ | exact hB0 _ _ | exact hBt _ _ | exact ⟨by omega, by omega⟩)) (fun σ88 hz88 => ?_)
      obtain ⟨hB, f88, o88, x88⟩ := hz88
      try have u88_0 : σ88 29 1 = σ82 29 1 := by first | exact o88 1 (by decide) | exact congrFun (f88 29 (by decide)) 1
      try have u88_1 : σ88 29 2 = σ82 29 2 := by first | exact o88 2 (by decide) | exact congrFun (f88 29 (by decide)) 2
      try have u88_2 : σ88 29 3 = σ82 29 3 := by first | exact o88 3 (by decide) | exact congrFun (f88 29 (by decide)) 3
      try have u88_3 : σ88 29 5 = σ82 29 5 := by first | exact o88 5 (by decide) | exact congrFun (f88 29 (by decide)) 5
      try have u88_4 : σ88 29 6 = σ82 29 6 := by first | exact o88 6 (by decide) | exact congrFun (f88 29 (by decide)) 6
      try have u88_5 : σ88 29 7 = σ82 29 7 := by first | exact o88 7 (by decide) | exact congrFun (f88 29 (by decide)) 7
      try have u88_6 : σ88 29 19 = σ82 29 19 := by first | exact o88 19 (by decide) | exact congrFun (f88 29 (by decide)) 19
      try have u88_7 : σ88 29 21 = σ82 29 21 := by first | exact o88 21 (by decide) | exact congrFun (f88 29 (by decide)) 21
      try have u88_8 : σ88 29 13 = σ82 29 13 := by first | exact o88 13 (by decide) | exact congrFun (f88 29 (by decide)) 13
      try have u88_9 : σ88 29 14 = σ82 29 14 := by first | exact o88 14 (by decide) | exact congrFun (f88 29 (by decide)) 14
      try have u88_10 : σ88 29 15 = σ82 29 15 := by first | exact o88 15 (by decide) | exact congrFun (f88 29 (by decide)) 15
      try have u88_11 : σ88 29 16 = σ82 29 16 := by first | exact o88 16 (by decide) | exact congrFun (f88 29 (by decide)) 16
      try have u88_12 : σ88 29 17 = σ82 29 17 := by first | exact o88 17 (by decide) | exact congrFun (f88 29 (by decide)) 17
      try have u88_13 : σ88 29 18 = σ82 29 18 := by first | exact o88 18 (by decide) | exact congrFun (f88 29 (by decide)) 18
      try have u88_14 : σ88 29 20 = σ82 29 20 := by first | exact o88 20 (by decide) | exact congrFun (f88 29 (by decide)) 20
      skip
      refine pe_rv d_M_inSequence_91 ?_
      first
      | exact ⟨hB, (fun b hb => (f88 b (by simp at hb ⊢; try omega)).trans ((f82 b (by simp at hb ⊢; try omega)).trans (rfl))), (fun j hj => (o88 j (by simp at hj ⊢; try omega)).trans ((o82 j (by simp at hj ⊢; try omega)).trans (rfl))), by rw [pe_st_1 D2.1 D2.2.1, pe_q_n1, pe_q_n1]; exact hA2, pe_rk_2 D2.2.2.1 ⟨by omega, by omega, by rw [D2.2.2.2]; omega, by show _ = b; omega⟩⟩
      | exact ⟨hB, (fun b hb => (f88 b (by simp at hb ⊢; try omega)).trans ((f82 b (by simp at hb ⊢; try omega)).trans (rfl))), (fun j hj => (o88 j (by simp at hj ⊢; try omega)).trans ((o82 j (by simp at hj ⊢; try omega)).trans (rfl))), by rw [pe_st_1 F2.1 F2.2.1, pe_q_n1]; exact x74, pe_rk_00 F2.2.2 ⟨by omega, by omega, by show _ = b; omega⟩⟩
      | exact ⟨hB, (fun b hb => (f88 b (by simp at hb ⊢; try omega)).trans ((f82 b (by simp at hb ⊢; try omega)).trans (rfl))), (fun j hj => (o88 j (by simp at hj ⊢; try omega)).trans ((o82 j (by simp at hj ⊢; try omega)).trans (rfl))), by rw [pe_st_1 O2.1 rfl, pe_q_n1]; exact x88.1, x88.2⟩
    · skip
      refine pe_iload_n d_M_inSequence_61 rfl ?_
      refine pe_bipush d_M_inSequence_62 ?_
      refine pe_icmp_gt (t := 80) d_M_inSequence_64 (by first | exact hB _ _ | exact hB0 _ _ | exact hBt _ _ | exact ⟨by omega, by omega⟩) (by first | exact hB _ _ | exact hB0 _ _ | exact hBt _ _ | exact ⟨by omega, by omega⟩) (fun h64 => ?_) (fun h64 => ?_)
      · skip
        refine pe_aload_n d_M_inSequence_80 rfl ?_
        refine pe_iconst d_M_inSequence_81 ?_
        refine pe_putiT f_M_181 g_11_13 d_M_inSequence_82 rfl rfl 13 rfl hB (by first | exact hB _ _ | exact hB0 _ _ | exact hBt _ _ | exact ⟨by omega, by omega⟩) (fun σ82 hB e82 o82 f82 => ?_)
        try have u82_0 : σ82 29 1 = σ 29 1 := by first | exact o82 1 (by decide) | exact congrFun (f82 29 (by decide)) 1
        try have u82_1 : σ82 29 2 = σ 29 2 := by first | exact o82 2 (by decide) | exact congrFun (f82 29 (by decide)) 2
        try have u82_2 : σ82 29 3 = σ 29 3 := by first | exact o82 3 (by decide) | exact congrFun (f82 29 (by decide)) 3
        try have u82_3 : σ82 29 5 = σ 29 5 := by first | exact o82 5 (by decide) | exact congrFun (f82 29 (by decide)) 5
        try have u82_4 : σ82 29 6 = σ 29 6 := by first | exact o82 6 (by decide) | exact congrFun (f82 29 (by decide)) 6
        try have u82_5 : σ82 29 7 = σ 29 7 := by first | exact o82 7 (by decide) | exact congrFun (f82 29 (by decide)) 7
        try have u82_6 : σ82 29 19 = σ 29 19 := by first | exact o82 19 (by decide) | exact congrFun (f82 29 (by decide)) 19
        try have u82_7 : σ82 29 21 = σ 29 21 := by first | exact o82 21 (by decide) | exact congrFun (f82 29 (by decide)) 21
        try have u82_8 : σ82 29 13 = σ 29 13 := by first | exact o82 13 (by decide) | exact congrFun (f82 29 (by decide)) 13
        try have u82_9 : σ82 29 14 = σ 29 14 := by first | exact o82 14 (by decide) | exact congrFun (f82 29 (by decide)) 14
        try have u82_10 : σ82 29 15 = σ 29 15 := by first | exact o82 15 (by decide) | exact congrFun (f82 29 (by decide)) 15
        try have u82_11 : σ82 29 16 = σ 29 16 := by first | exact o82 16 (by decide) | exact congrFun (f82 29 (by decide)) 16
        try have u82_12 : σ82 29 17 = σ 29 17 := by first | exact o82 17 (by decide) | exact congrFun (f82 29 (by decide)) 17
        try have u82_13 : σ82 29 18 = σ 29 18 := by first | exact o82 18 (by decide) | exact congrFun (f82 29 (by decide)) 18
        try have u82_14 : σ82 29 20 = σ 29 20 := by first | exact o82 20 (by decide) | exact congrFun (f82 29 (by decide)) 20
        have hA1 := pe_ra_f hA (fun b hb => (f82 b (by rintro rfl; simp at hb))) (fun j hj => (o82 j (by rintro rfl; simp at hj)))
        have O2 := pe_2_out hs.1 (by omega : ¬ (48 ≤ b ∧ b ≤ 57) ∧ ¬ (64 ≤ b ∧ b ≤ 126))
        refine pe_aload_n d_M_inSequence_85 rfl ?_
        refine pe_iload_n d_M_inSequence_86 rfl ?_
        refine pe_iload_n d_M_inSequence_87 rfl ?_
        refine pe_v2v d_M_inSequence_88 c_M_200 i_M_plain s_M_plain rfl rfl (x_M_plain (s := pe_kx s b) hB hA1 hw (by omega) hg ⟨O2.2, hs.2⟩ (by omega) (by omega) (by first | exact hB _ _ | exact hB0 _ _ | exact hBt _ _ | exact ⟨by omega, by omega⟩)) (fun σ88 hz88 => ?_)
        obtain ⟨hB, f88, o88, x88⟩ := hz88
        try have u88_0 : σ88 29 1 = σ82 29 1 := by first | exact o88 1 (by decide) | exact congrFun (f88 29 (by decide)) 1
        try have u88_1 : σ88 29 2 = σ82 29 2 := by first | exact o88 2 (by decide) | exact congrFun (f88 29 (by decide)) 2
        try have u88_2 : σ88 29 3 = σ82 29 3 := by first | exact o88 3 (by decide) | exact congrFun (f88 29 (by decide)) 3
        try have u88_3 : σ88 29 5 = σ82 29 5 := by first | exact o88 5 (by decide) | exact congrFun (f88 29 (by decide)) 5
        try have u88_4 : σ88 29 6 = σ82 29 6 := by first | exact o88 6 (by decide) | exact congrFun (f88 29 (by decide)) 6
        try have u88_5 : σ88 29 7 = σ82 29 7 := by first | exact o88 7 (by decide) | exact congrFun (f88 29 (by decide)) 7
        try have u88_6 : σ88 29 19 = σ82 29 19 := by first | exact o88 19 (by decide) | exact congrFun (f88 29 (by decide)) 19
        try have u88_7 : σ88 29 21 = σ82 29 21 := by first | exact o88 21 (by decide) | exact congrFun (f88 29 (by decide)) 21
        try have u88_8 : σ88 29 13 = σ82 29 13 := by first | exact o88 13 (by decide) | exact congrFun (f88 29 (by decide)) 13
        try have u88_9 : σ88 29 14 = σ82 29 14 := by first | exact o88 14 (by decide) | exact congrFun (f88 29 (by decide)) 14
        try have u88_10 : σ88 29 15 = σ82 29 15 := by first | exact o88 15 (by decide) | exact congrFun (f88 29 (by decide)) 15
        try have u88_11 : σ88 29 16 = σ82 29 16 := by first | exact o88 16 (by decide) | exact congrFun (f88 29 (by decide)) 16
        try have u88_12 : σ88 29 17 = σ82 29 17 := by first | exact o88 17 (by decide) | exact congrFun (f88 29 (by decide)) 17
        try have u88_13 : σ88 29 18 = σ82 29 18 := by first | exact o88 18 (by decide) | exact congrFun (f88 29 (by decide)) 18
        try have u88_14 : σ88 29 20 = σ82 29 20 := by first | exact o88 20 (by decide) | exact congrFun (f88 29 (by decide)) 20
        skip
        refine pe_rv d_M_inSequence_91 ?_
        first
        | exact ⟨hB, (fun b hb => (f88 b (by simp at hb ⊢; try omega)).trans ((f82 b (by simp at hb ⊢; try omega)).trans (rfl))), (fun j hj => (o88 j (by simp at hj ⊢; try omega)).trans ((o82 j (by simp at hj ⊢; try omega)).trans (rfl))), by rw [pe_st_1 D2.1 D2.2.1, pe_q_n1, pe_q_n1]; exact hA2, pe_rk_2 D2.2.2.1 ⟨by omega, by omega, by rw [D2.2.2.2]; omega, by show _ = b; omega⟩⟩
        | exact ⟨hB, (fun b hb => (f88 b (by simp at hb ⊢; try omega)).trans ((f82 b (by simp at hb ⊢; try omega)).trans (rfl))), (fun j hj => (o88 j (by simp at hj ⊢; try omega)).trans ((o82 j (by simp at hj ⊢; try omega)).trans (rfl))), by rw [pe_st_1 F2.1 F2.2.1, pe_q_n1]; exact x74, pe_rk_00 F2.2.2 ⟨by omega, by omega, by show _ = b; omega⟩⟩
        | exact ⟨hB, (fun b hb => (f88 b (by simp at hb ⊢; try omega)).trans ((f82 b (by simp at hb ⊢; try omega)).trans (rfl))), (fun j hj => (o88 j (by simp at hj ⊢; try omega)).trans ((o82 j (by simp at hj ⊢; try omega)).trans (rfl))), by rw [pe_st_1 O2.1 rfl, pe_q_n1]; exact x88.1, x88.2⟩
      · skip
        refine pe_aload_n d_M_inSequence_67 rfl ?_
        refine pe_iconst d_M_inSequence_68 ?_
        refine pe_putiT f_M_181 g_11_13 d_M_inSequence_69 rfl rfl 13 rfl hB (by first | exact hB _ _ | exact hB0 _ _ | exact hBt _ _ | exact ⟨by omega, by omega⟩) (fun σ69 hB e69 o69 f69 => ?_)
        try have u69_0 : σ69 29 1 = σ 29 1 := by first | exact o69 1 (by decide) | exact congrFun (f69 29 (by decide)) 1
        try have u69_1 : σ69 29 2 = σ 29 2 := by first | exact o69 2 (by decide) | exact congrFun (f69 29 (by decide)) 2
        try have u69_2 : σ69 29 3 = σ 29 3 := by first | exact o69 3 (by decide) | exact congrFun (f69 29 (by decide)) 3
        try have u69_3 : σ69 29 5 = σ 29 5 := by first | exact o69 5 (by decide) | exact congrFun (f69 29 (by decide)) 5
        try have u69_4 : σ69 29 6 = σ 29 6 := by first | exact o69 6 (by decide) | exact congrFun (f69 29 (by decide)) 6
        try have u69_5 : σ69 29 7 = σ 29 7 := by first | exact o69 7 (by decide) | exact congrFun (f69 29 (by decide)) 7
        try have u69_6 : σ69 29 19 = σ 29 19 := by first | exact o69 19 (by decide) | exact congrFun (f69 29 (by decide)) 19
        try have u69_7 : σ69 29 21 = σ 29 21 := by first | exact o69 21 (by decide) | exact congrFun (f69 29 (by decide)) 21
        try have u69_8 : σ69 29 13 = σ 29 13 := by first | exact o69 13 (by decide) | exact congrFun (f69 29 (by decide)) 13
        try have u69_9 : σ69 29 14 = σ 29 14 := by first | exact o69 14 (by decide) | exact congrFun (f69 29 (by decide)) 14
        try have u69_10 : σ69 29 15 = σ 29 15 := by first | exact o69 15 (by decide) | exact congrFun (f69 29 (by decide)) 15
        try have u69_11 : σ69 29 16 = σ 29 16 := by first | exact o69 16 (by decide) | exact congrFun (f69 29 (by decide)) 16
        try have u69_12 : σ69 29 17 = σ 29 17 := by first | exact o69 17 (by decide) | exact congrFun (f69 29 (by decide)) 17
        try have u69_13 : σ69 29 18 = σ 29 18 := by first | exact o69 18 (by decide) | exact congrFun (f69 29 (by decide)) 18
        try have u69_14 : σ69 29 20 = σ 29 20 := by first | exact o69 20 (by decide) | exact congrFun (f69 29 (by decide)) 20
        have hA1 := pe_ra_f hA (fun b hb => (f69 b (by rintro rfl; simp at hb))) (fun j hj => (o69 j (by rintro rfl; simp at hj)))
        have F2 := pe_2_fin hs.1 (by omega : 64 ≤ b ∧ b ≤ 126)
        have c14 : σ69 29 14 = s 1 := by omega
        refine pe_aload_n d_M_inSequence_72 rfl ?_
        refine pe_iload_n d_M_inSequence_73 rfl ?_
        refine pe_v1v d_M_inSequence_74 c_M_203 i_M_finish s_M_finish rfl rfl (x_M_finish hB hA1 hw hk1 hg (by omega)) (fun σ74 hz74 => ?_)
        obtain ⟨hB, f74, o74, x74⟩ := hz74
        try have u74_0 : σ74 29 1 = σ69 29 1 := by first | exact o74 1 (by decide) | exact congrFun (f74 29 (by decide)) 1
        try have u74_1 : σ74 29 2 = σ69 29 2 := by first | exact o74 2 (by decide) | exact congrFun (f74 29 (by decide)) 2
        try have u74_2 : σ74 29 3 = σ69 29 3 := by first | exact o74 3 (by decide) | exact congrFun (f74 29 (by decide)) 3
        try have u74_3 : σ74 29 5 = σ69 29 5 := by first | exact o74 5 (by decide) | exact congrFun (f74 29 (by decide)) 5
        try have u74_4 : σ74 29 6 = σ69 29 6 := by first | exact o74 6 (by decide) | exact congrFun (f74 29 (by decide)) 6
        try have u74_5 : σ74 29 7 = σ69 29 7 := by first | exact o74 7 (by decide) | exact congrFun (f74 29 (by decide)) 7
        try have u74_6 : σ74 29 19 = σ69 29 19 := by first | exact o74 19 (by decide) | exact congrFun (f74 29 (by decide)) 19
        try have u74_7 : σ74 29 21 = σ69 29 21 := by first | exact o74 21 (by decide) | exact congrFun (f74 29 (by decide)) 21
        try have u74_8 : σ74 29 13 = σ69 29 13 := by first | exact o74 13 (by decide) | exact congrFun (f74 29 (by decide)) 13
        try have u74_9 : σ74 29 14 = σ69 29 14 := by first | exact o74 14 (by decide) | exact congrFun (f74 29 (by decide)) 14
        try have u74_10 : σ74 29 15 = σ69 29 15 := by first | exact o74 15 (by decide) | exact congrFun (f74 29 (by decide)) 15
        try have u74_11 : σ74 29 16 = σ69 29 16 := by first | exact o74 16 (by decide) | exact congrFun (f74 29 (by decide)) 16
        try have u74_12 : σ74 29 17 = σ69 29 17 := by first | exact o74 17 (by decide) | exact congrFun (f74 29 (by decide)) 17
        try have u74_13 : σ74 29 18 = σ69 29 18 := by first | exact o74 18 (by decide) | exact congrFun (f74 29 (by decide)) 18
        try have u74_14 : σ74 29 20 = σ69 29 20 := by first | exact o74 20 (by decide) | exact congrFun (f74 29 (by decide)) 20
        rw [c14] at x74
        refine pe_goto (t := 91) d_M_inSequence_77 ?_
        refine pe_rv d_M_inSequence_91 ?_
        first
        | exact ⟨hB, (fun b hb => (f74 b (by simp at hb ⊢; try omega)).trans ((f69 b (by simp at hb ⊢; try omega)).trans (rfl))), (fun j hj => (o74 j (by simp at hj ⊢; try omega)).trans ((o69 j (by simp at hj ⊢; try omega)).trans (rfl))), by rw [pe_st_1 D2.1 D2.2.1, pe_q_n1, pe_q_n1]; exact hA2, pe_rk_2 D2.2.2.1 ⟨by omega, by omega, by rw [D2.2.2.2]; omega, by show _ = b; omega⟩⟩
        | exact ⟨hB, (fun b hb => (f74 b (by simp at hb ⊢; try omega)).trans ((f69 b (by simp at hb ⊢; try omega)).trans (rfl))), (fun j hj => (o74 j (by simp at hj ⊢; try omega)).trans ((o69 j (by simp at hj ⊢; try omega)).trans (rfl))), by rw [pe_st_1 F2.1 F2.2.1, pe_q_n1]; exact x74, pe_rk_00 F2.2.2 ⟨by omega, by omega, by show _ = b; omega⟩⟩
        | exact ⟨hB, (fun b hb => (f74 b (by simp at hb ⊢; try omega)).trans ((f69 b (by simp at hb ⊢; try omega)).trans (rfl))), (fun j hj => (o74 j (by simp at hj ⊢; try omega)).trans ((o69 j (by simp at hj ⊢; try omega)).trans (rfl))), by rw [pe_st_1 O2.1 rfl, pe_q_n1]; exact x88.1, x88.2⟩
  · skip
    refine pe_iload_n d_M_inSequence_6 rfl ?_
    refine pe_bipush d_M_inSequence_7 ?_
    refine pe_icmp_gt (t := 55) d_M_inSequence_9 (by first | exact hB _ _ | exact hB0 _ _ | exact hBt _ _ | exact ⟨by omega, by omega⟩) (by first | exact hB _ _ | exact hB0 _ _ | exact hBt _ _ | exact ⟨by omega, by omega⟩) (fun h9 => ?_) (fun h9 => ?_)
    · skip
      refine pe_iload_n d_M_inSequence_55 rfl ?_
      refine pe_bipush d_M_inSequence_56 ?_
      refine pe_icmp_lt (t := 80) d_M_inSequence_58 (by first | exact hB _ _ | exact hB0 _ _ | exact hBt _ _ | exact ⟨by omega, by omega⟩) (by first | exact hB _ _ | exact hB0 _ _ | exact hBt _ _ | exact ⟨by omega, by omega⟩) (fun h58 => ?_) (fun h58 => ?_)
      · skip
        refine pe_aload_n d_M_inSequence_80 rfl ?_
        refine pe_iconst d_M_inSequence_81 ?_
        refine pe_putiT f_M_181 g_11_13 d_M_inSequence_82 rfl rfl 13 rfl hB (by first | exact hB _ _ | exact hB0 _ _ | exact hBt _ _ | exact ⟨by omega, by omega⟩) (fun σ82 hB e82 o82 f82 => ?_)
        try have u82_0 : σ82 29 1 = σ 29 1 := by first | exact o82 1 (by decide) | exact congrFun (f82 29 (by decide)) 1
        try have u82_1 : σ82 29 2 = σ 29 2 := by first | exact o82 2 (by decide) | exact congrFun (f82 29 (by decide)) 2
        try have u82_2 : σ82 29 3 = σ 29 3 := by first | exact o82 3 (by decide) | exact congrFun (f82 29 (by decide)) 3
        try have u82_3 : σ82 29 5 = σ 29 5 := by first | exact o82 5 (by decide) | exact congrFun (f82 29 (by decide)) 5
        try have u82_4 : σ82 29 6 = σ 29 6 := by first | exact o82 6 (by decide) | exact congrFun (f82 29 (by decide)) 6
        try have u82_5 : σ82 29 7 = σ 29 7 := by first | exact o82 7 (by decide) | exact congrFun (f82 29 (by decide)) 7
        try have u82_6 : σ82 29 19 = σ 29 19 := by first | exact o82 19 (by decide) | exact congrFun (f82 29 (by decide)) 19
        try have u82_7 : σ82 29 21 = σ 29 21 := by first | exact o82 21 (by decide) | exact congrFun (f82 29 (by decide)) 21
        try have u82_8 : σ82 29 13 = σ 29 13 := by first | exact o82 13 (by decide) | exact congrFun (f82 29 (by decide)) 13
        try have u82_9 : σ82 29 14 = σ 29 14 := by first | exact o82 14 (by decide) | exact congrFun (f82 29 (by decide)) 14
        try have u82_10 : σ82 29 15 = σ 29 15 := by first | exact o82 15 (by decide) | exact congrFun (f82 29 (by decide)) 15
        try have u82_11 : σ82 29 16 = σ 29 16 := by first | exact o82 16 (by decide) | exact congrFun (f82 29 (by decide)) 16
        try have u82_12 : σ82 29 17 = σ 29 17 := by first | exact o82 17 (by decide) | exact congrFun (f82 29 (by decide)) 17
        try have u82_13 : σ82 29 18 = σ 29 18 := by first | exact o82 18 (by decide) | exact congrFun (f82 29 (by decide)) 18
        try have u82_14 : σ82 29 20 = σ 29 20 := by first | exact o82 20 (by decide) | exact congrFun (f82 29 (by decide)) 20
        have hA1 := pe_ra_f hA (fun b hb => (f82 b (by rintro rfl; simp at hb))) (fun j hj => (o82 j (by rintro rfl; simp at hj)))
        have O2 := pe_2_out hs.1 (by omega : ¬ (48 ≤ b ∧ b ≤ 57) ∧ ¬ (64 ≤ b ∧ b ≤ 126))
        refine pe_aload_n d_M_inSequence_85 rfl ?_
        refine pe_iload_n d_M_inSequence_86 rfl ?_
        refine pe_iload_n d_M_inSequence_87 rfl ?_
        refine pe_v2v d_M_inSequence_88 c_M_200 i_M_plain s_M_plain rfl rfl (x_M_plain (s := pe_kx s b) hB hA1 hw (by omega) hg ⟨O2.2, hs.2⟩ (by omega) (by omega) (by first | exact hB _ _ | exact hB0 _ _ | exact hBt _ _ | exact ⟨by omega, by omega⟩)) (fun σ88 hz88 => ?_)
        obtain ⟨hB, f88, o88, x88⟩ := hz88
        try have u88_0 : σ88 29 1 = σ82 29 1 := by first | exact o88 1 (by decide) | exact congrFun (f88 29 (by decide)) 1
        try have u88_1 : σ88 29 2 = σ82 29 2 := by first | exact o88 2 (by decide) | exact congrFun (f88 29 (by decide)) 2
        try have u88_2 : σ88 29 3 = σ82 29 3 := by first | exact o88 3 (by decide) | exact congrFun (f88 29 (by decide)) 3
        try have u88_3 : σ88 29 5 = σ82 29 5 := by first | exact o88 5 (by decide) | exact congrFun (f88 29 (by decide)) 5
        try have u88_4 : σ88 29 6 = σ82 29 6 := by first | exact o88 6 (by decide) | exact congrFun (f88 29 (by decide)) 6
        try have u88_5 : σ88 29 7 = σ82 29 7 := by first | exact o88 7 (by decide) | exact congrFun (f88 29 (by decide)) 7
        try have u88_6 : σ88 29 19 = σ82 29 19 := by first | exact o88 19 (by decide) | exact congrFun (f88 29 (by decide)) 19
        try have u88_7 : σ88 29 21 = σ82 29 21 := by first | exact o88 21 (by decide) | exact congrFun (f88 29 (by decide)) 21
        try have u88_8 : σ88 29 13 = σ82 29 13 := by first | exact o88 13 (by decide) | exact congrFun (f88 29 (by decide)) 13
        try have u88_9 : σ88 29 14 = σ82 29 14 := by first | exact o88 14 (by decide) | exact congrFun (f88 29 (by decide)) 14
        try have u88_10 : σ88 29 15 = σ82 29 15 := by first | exact o88 15 (by decide) | exact congrFun (f88 29 (by decide)) 15
        try have u88_11 : σ88 29 16 = σ82 29 16 := by first | exact o88 16 (by decide) | exact congrFun (f88 29 (by decide)) 16
        try have u88_12 : σ88 29 17 = σ82 29 17 := by first | exact o88 17 (by decide) | exact congrFun (f88 29 (by decide)) 17
        try have u88_13 : σ88 29 18 = σ82 29 18 := by first | exact o88 18 (by decide) | exact congrFun (f88 29 (by decide)) 18
        try have u88_14 : σ88 29 20 = σ82 29 20 := by first | exact o88 20 (by decide) | exact congrFun (f88 29 (by decide)) 20
        skip
        refine pe_rv d_M_inSequence_91 ?_
        first
        | exact ⟨hB, (fun b hb => (f88 b (by simp at hb ⊢; try omega)).trans ((f82 b (by simp at hb ⊢; try omega)).trans (rfl))), (fun j hj => (o88 j (by simp at hj ⊢; try omega)).trans ((o82 j (by simp at hj ⊢; try omega)).trans (rfl))), by rw [pe_st_1 D2.1 D2.2.1, pe_q_n1, pe_q_n1]; exact hA2, pe_rk_2 D2.2.2.1 ⟨by omega, by omega, by rw [D2.2.2.2]; omega, by show _ = b; omega⟩⟩
        | exact ⟨hB, (fun b hb => (f88 b (by simp at hb ⊢; try omega)).trans ((f82 b (by simp at hb ⊢; try omega)).trans (rfl))), (fun j hj => (o88 j (by simp at hj ⊢; try omega)).trans ((o82 j (by simp at hj ⊢; try omega)).trans (rfl))), by rw [pe_st_1 F2.1 F2.2.1, pe_q_n1]; exact x74, pe_rk_00 F2.2.2 ⟨by omega, by omega, by show _ = b; omega⟩⟩
        | exact ⟨hB, (fun b hb => (f88 b (by simp at hb ⊢; try omega)).trans ((f82 b (by simp at hb ⊢; try omega)).trans (rfl))), (fun j hj => (o88 j (by simp at hj ⊢; try omega)).trans ((o82 j (by simp at hj ⊢; try omega)).trans (rfl))), by rw [pe_st_1 O2.1 rfl, pe_q_n1]; exact x88.1, x88.2⟩
      · skip
        refine pe_iload_n d_M_inSequence_61 rfl ?_
        refine pe_bipush d_M_inSequence_62 ?_
        refine pe_icmp_gt (t := 80) d_M_inSequence_64 (by first | exact hB _ _ | exact hB0 _ _ | exact hBt _ _ | exact ⟨by omega, by omega⟩) (by first | exact hB _ _ | exact hB0 _ _ | exact hBt _ _ | exact ⟨by omega, by omega⟩) (fun h64 => ?_) (fun h64 => ?_)
        · skip
          refine pe_aload_n d_M_inSequence_80 rfl ?_
          refine pe_iconst d_M_inSequence_81 ?_
          refine pe_putiT f_M_181 g_11_13 d_M_inSequence_82 rfl rfl 13 rfl hB (by first | exact hB _ _ | exact hB0 _ _ | exact hBt _ _ | exact ⟨by omega, by omega⟩) (fun σ82 hB e82 o82 f82 => ?_)
          try have u82_0 : σ82 29 1 = σ 29 1 := by first | exact o82 1 (by decide) | exact congrFun (f82 29 (by decide)) 1
          try have u82_1 : σ82 29 2 = σ 29 2 := by first | exact o82 2 (by decide) | exact congrFun (f82 29 (by decide)) 2
          try have u82_2 : σ82 29 3 = σ 29 3 := by first | exact o82 3 (by decide) | exact congrFun (f82 29 (by decide)) 3
          try have u82_3 : σ82 29 5 = σ 29 5 := by first | exact o82 5 (by decide) | exact congrFun (f82 29 (by decide)) 5
          try have u82_4 : σ82 29 6 = σ 29 6 := by first | exact o82 6 (by decide) | exact congrFun (f82 29 (by decide)) 6
          try have u82_5 : σ82 29 7 = σ 29 7 := by first | exact o82 7 (by decide) | exact congrFun (f82 29 (by decide)) 7
          try have u82_6 : σ82 29 19 = σ 29 19 := by first | exact o82 19 (by decide) | exact congrFun (f82 29 (by decide)) 19
          try have u82_7 : σ82 29 21 = σ 29 21 := by first | exact o82 21 (by decide) | exact congrFun (f82 29 (by decide)) 21
          try have u82_8 : σ82 29 13 = σ 29 13 := by first | exact o82 13 (by decide) | exact congrFun (f82 29 (by decide)) 13
          try have u82_9 : σ82 29 14 = σ 29 14 := by first | exact o82 14 (by decide) | exact congrFun (f82 29 (by decide)) 14
          try have u82_10 : σ82 29 15 = σ 29 15 := by first | exact o82 15 (by decide) | exact congrFun (f82 29 (by decide)) 15
          try have u82_11 : σ82 29 16 = σ 29 16 := by first | exact o82 16 (by decide) | exact congrFun (f82 29 (by decide)) 16
          try have u82_12 : σ82 29 17 = σ 29 17 := by first | exact o82 17 (by decide) | exact congrFun (f82 29 (by decide)) 17
          try have u82_13 : σ82 29 18 = σ 29 18 := by first | exact o82 18 (by decide) | exact congrFun (f82 29 (by decide)) 18
          try have u82_14 : σ82 29 20 = σ 29 20 := by first | exact o82 20 (by decide) | exact congrFun (f82 29 (by decide)) 20
          have hA1 := pe_ra_f hA (fun b hb => (f82 b (by rintro rfl; simp at hb))) (fun j hj => (o82 j (by rintro rfl; simp at hj)))
          have O2 := pe_2_out hs.1 (by omega : ¬ (48 ≤ b ∧ b ≤ 57) ∧ ¬ (64 ≤ b ∧ b ≤ 126))
          refine pe_aload_n d_M_inSequence_85 rfl ?_
          refine pe_iload_n d_M_inSequence_86 rfl ?_
          refine pe_iload_n d_M_inSequence_87 rfl ?_
          refine pe_v2v d_M_inSequence_88 c_M_200 i_M_plain s_M_plain rfl rfl (x_M_plain (s := pe_kx s b) hB hA1 hw (by omega) hg ⟨O2.2, hs.2⟩ (by omega) (by omega) (by first | exact hB _ _ | exact hB0 _ _ | exact hBt _ _ | exact ⟨by omega, by omega⟩)) (fun σ88 hz88 => ?_)
          obtain ⟨hB, f88, o88, x88⟩ := hz88
          try have u88_0 : σ88 29 1 = σ82 29 1 := by first | exact o88 1 (by decide) | exact congrFun (f88 29 (by decide)) 1
          try have u88_1 : σ88 29 2 = σ82 29 2 := by first | exact o88 2 (by decide) | exact congrFun (f88 29 (by decide)) 2
          try have u88_2 : σ88 29 3 = σ82 29 3 := by first | exact o88 3 (by decide) | exact congrFun (f88 29 (by decide)) 3
          try have u88_3 : σ88 29 5 = σ82 29 5 := by first | exact o88 5 (by decide) | exact congrFun (f88 29 (by decide)) 5
          try have u88_4 : σ88 29 6 = σ82 29 6 := by first | exact o88 6 (by decide) | exact congrFun (f88 29 (by decide)) 6
          try have u88_5 : σ88 29 7 = σ82 29 7 := by first | exact o88 7 (by decide) | exact congrFun (f88 29 (by decide)) 7
          try have u88_6 : σ88 29 19 = σ82 29 19 := by first | exact o88 19 (by decide) | exact congrFun (f88 29 (by decide)) 19
          try have u88_7 : σ88 29 21 = σ82 29 21 := by first | exact o88 21 (by decide) | exact congrFun (f88 29 (by decide)) 21
          try have u88_8 : σ88 29 13 = σ82 29 13 := by first | exact o88 13 (by decide) | exact congrFun (f88 29 (by decide)) 13
          try have u88_9 : σ88 29 14 = σ82 29 14 := by first | exact o88 14 (by decide) | exact congrFun (f88 29 (by decide)) 14
          try have u88_10 : σ88 29 15 = σ82 29 15 := by first | exact o88 15 (by decide) | exact congrFun (f88 29 (by decide)) 15
          try have u88_11 : σ88 29 16 = σ82 29 16 := by first | exact o88 16 (by decide) | exact congrFun (f88 29 (by decide)) 16
          try have u88_12 : σ88 29 17 = σ82 29 17 := by first | exact o88 17 (by decide) | exact congrFun (f88 29 (by decide)) 17
          try have u88_13 : σ88 29 18 = σ82 29 18 := by first | exact o88 18 (by decide) | exact congrFun (f88 29 (by decide)) 18
          try have u88_14 : σ88 29 20 = σ82 29 20 := by first | exact o88 20 (by decide) | exact congrFun (f88 29 (by decide)) 20
          skip
          refine pe_rv d_M_inSequence_91 ?_
          first
          | exact ⟨hB, (fun b hb => (f88 b (by simp at hb ⊢; try omega)).trans ((f82 b (by simp at hb ⊢; try omega)).trans (rfl))), (fun j hj => (o88 j (by simp at hj ⊢; try omega)).trans ((o82 j (by simp at hj ⊢; try omega)).trans (rfl))), by rw [pe_st_1 D2.1 D2.2.1, pe_q_n1, pe_q_n1]; exact hA2, pe_rk_2 D2.2.2.1 ⟨by omega, by omega, by rw [D2.2.2.2]; omega, by show _ = b; omega⟩⟩
          | exact ⟨hB, (fun b hb => (f88 b (by simp at hb ⊢; try omega)).trans ((f82 b (by simp at hb ⊢; try omega)).trans (rfl))), (fun j hj => (o88 j (by simp at hj ⊢; try omega)).trans ((o82 j (by simp at hj ⊢; try omega)).trans (rfl))), by rw [pe_st_1 F2.1 F2.2.1, pe_q_n1]; exact x74, pe_rk_00 F2.2.2 ⟨by omega, by omega, by show _ = b; omega⟩⟩
          | exact ⟨hB, (fun b hb => (f88 b (by simp at hb ⊢; try omega)).trans ((f82 b (by simp at hb ⊢; try omega)).trans (rfl))), (fun j hj => (o88 j (by simp at hj ⊢; try omega)).trans ((o82 j (by simp at hj ⊢; try omega)).trans (rfl))), by rw [pe_st_1 O2.1 rfl, pe_q_n1]; exact x88.1, x88.2⟩
        · skip
          refine pe_aload_n d_M_inSequence_67 rfl ?_
          refine pe_iconst d_M_inSequence_68 ?_
          refine pe_putiT f_M_181 g_11_13 d_M_inSequence_69 rfl rfl 13 rfl hB (by first | exact hB _ _ | exact hB0 _ _ | exact hBt _ _ | exact ⟨by omega, by omega⟩) (fun σ69 hB e69 o69 f69 => ?_)
          try have u69_0 : σ69 29 1 = σ 29 1 := by first | exact o69 1 (by decide) | exact congrFun (f69 29 (by decide)) 1
          try have u69_1 : σ69 29 2 = σ 29 2 := by first | exact o69 2 (by decide) | exact congrFun (f69 29 (by decide)) 2
          try have u69_2 : σ69 29 3 = σ 29 3 := by first | exact o69 3 (by decide) | exact congrFun (f69 29 (by decide)) 3
          try have u69_3 : σ69 29 5 = σ 29 5 := by first | exact o69 5 (by decide) | exact congrFun (f69 29 (by decide)) 5
          try have u69_4 : σ69 29 6 = σ 29 6 := by first | exact o69 6 (by decide) | exact congrFun (f69 29 (by decide)) 6
          try have u69_5 : σ69 29 7 = σ 29 7 := by first | exact o69 7 (by decide) | exact congrFun (f69 29 (by decide)) 7
          try have u69_6 : σ69 29 19 = σ 29 19 := by first | exact o69 19 (by decide) | exact congrFun (f69 29 (by decide)) 19
          try have u69_7 : σ69 29 21 = σ 29 21 := by first | exact o69 21 (by decide) | exact congrFun (f69 29 (by decide)) 21
          try have u69_8 : σ69 29 13 = σ 29 13 := by first | exact o69 13 (by decide) | exact congrFun (f69 29 (by decide)) 13
          try have u69_9 : σ69 29 14 = σ 29 14 := by first | exact o69 14 (by decide) | exact congrFun (f69 29 (by decide)) 14
          try have u69_10 : σ69 29 15 = σ 29 15 := by first | exact o69 15 (by decide) | exact congrFun (f69 29 (by decide)) 15
          try have u69_11 : σ69 29 16 = σ 29 16 := by first | exact o69 16 (by decide) | exact congrFun (f69 29 (by decide)) 16
          try have u69_12 : σ69 29 17 = σ 29 17 := by first | exact o69 17 (by decide) | exact congrFun (f69 29 (by decide)) 17
          try have u69_13 : σ69 29 18 = σ 29 18 := by first | exact o69 18 (by decide) | exact congrFun (f69 29 (by decide)) 18
          try have u69_14 : σ69 29 20 = σ 29 20 := by first | exact o69 20 (by decide) | exact congrFun (f69 29 (by decide)) 20
          have hA1 := pe_ra_f hA (fun b hb => (f69 b (by rintro rfl; simp at hb))) (fun j hj => (o69 j (by rintro rfl; simp at hj)))
          have F2 := pe_2_fin hs.1 (by omega : 64 ≤ b ∧ b ≤ 126)
          have c14 : σ69 29 14 = s 1 := by omega
          refine pe_aload_n d_M_inSequence_72 rfl ?_
          refine pe_iload_n d_M_inSequence_73 rfl ?_
          refine pe_v1v d_M_inSequence_74 c_M_203 i_M_finish s_M_finish rfl rfl (x_M_finish hB hA1 hw hk1 hg (by omega)) (fun σ74 hz74 => ?_)
          obtain ⟨hB, f74, o74, x74⟩ := hz74
          try have u74_0 : σ74 29 1 = σ69 29 1 := by first | exact o74 1 (by decide) | exact congrFun (f74 29 (by decide)) 1
          try have u74_1 : σ74 29 2 = σ69 29 2 := by first | exact o74 2 (by decide) | exact congrFun (f74 29 (by decide)) 2
          try have u74_2 : σ74 29 3 = σ69 29 3 := by first | exact o74 3 (by decide) | exact congrFun (f74 29 (by decide)) 3
          try have u74_3 : σ74 29 5 = σ69 29 5 := by first | exact o74 5 (by decide) | exact congrFun (f74 29 (by decide)) 5
          try have u74_4 : σ74 29 6 = σ69 29 6 := by first | exact o74 6 (by decide) | exact congrFun (f74 29 (by decide)) 6
          try have u74_5 : σ74 29 7 = σ69 29 7 := by first | exact o74 7 (by decide) | exact congrFun (f74 29 (by decide)) 7
          try have u74_6 : σ74 29 19 = σ69 29 19 := by first | exact o74 19 (by decide) | exact congrFun (f74 29 (by decide)) 19
          try have u74_7 : σ74 29 21 = σ69 29 21 := by first | exact o74 21 (by decide) | exact congrFun (f74 29 (by decide)) 21
          try have u74_8 : σ74 29 13 = σ69 29 13 := by first | exact o74 13 (by decide) | exact congrFun (f74 29 (by decide)) 13
          try have u74_9 : σ74 29 14 = σ69 29 14 := by first | exact o74 14 (by decide) | exact congrFun (f74 29 (by decide)) 14
          try have u74_10 : σ74 29 15 = σ69 29 15 := by first | exact o74 15 (by decide) | exact congrFun (f74 29 (by decide)) 15
          try have u74_11 : σ74 29 16 = σ69 29 16 := by first | exact o74 16 (by decide) | exact congrFun (f74 29 (by decide)) 16
          try have u74_12 : σ74 29 17 = σ69 29 17 := by first | exact o74 17 (by decide) | exact congrFun (f74 29 (by decide)) 17
          try have u74_13 : σ74 29 18 = σ69 29 18 := by first | exact o74 18 (by decide) | exact congrFun (f74 29 (by decide)) 18
          try have u74_14 : σ74 29 20 = σ69 29 20 := by first | exact o74 20 (by decide) | exact congrFun (f74 29 (by decide)) 20
          rw [c14] at x74
          refine pe_goto (t := 91) d_M_inSequence_77 ?_
          refine pe_rv d_M_inSequence_91 ?_
          first
          | exact ⟨hB, (fun b hb => (f74 b (by simp at hb ⊢; try omega)).trans ((f69 b (by simp at hb ⊢; try omega)).trans (rfl))), (fun j hj => (o74 j (by simp at hj ⊢; try omega)).trans ((o69 j (by simp at hj ⊢; try omega)).trans (rfl))), by rw [pe_st_1 D2.1 D2.2.1, pe_q_n1, pe_q_n1]; exact hA2, pe_rk_2 D2.2.2.1 ⟨by omega, by omega, by rw [D2.2.2.2]; omega, by show _ = b; omega⟩⟩
          | exact ⟨hB, (fun b hb => (f74 b (by simp at hb ⊢; try omega)).trans ((f69 b (by simp at hb ⊢; try omega)).trans (rfl))), (fun j hj => (o74 j (by simp at hj ⊢; try omega)).trans ((o69 j (by simp at hj ⊢; try omega)).trans (rfl))), by rw [pe_st_1 F2.1 F2.2.1, pe_q_n1]; exact x74, pe_rk_00 F2.2.2 ⟨by omega, by omega, by show _ = b; omega⟩⟩
          | exact ⟨hB, (fun b hb => (f74 b (by simp at hb ⊢; try omega)).trans ((f69 b (by simp at hb ⊢; try omega)).trans (rfl))), (fun j hj => (o74 j (by simp at hj ⊢; try omega)).trans ((o69 j (by simp at hj ⊢; try omega)).trans (rfl))), by rw [pe_st_1 O2.1 rfl, pe_q_n1]; exact x88.1, x88.2⟩
    · skip
      refine pe_aload_n d_M_inSequence_12 rfl ?_
      refine pe_bipush d_M_inSequence_13 ?_
      refine pe_aload_n d_M_inSequence_15 rfl ?_
      refine pe_geti f_M_168 d_M_inSequence_16 rfl rfl 14 rfl ?_
      refine pe_imul d_M_inSequence_19 ?_
      refine pe_iload_n d_M_inSequence_20 rfl ?_
      refine pe_iadd d_M_inSequence_21 ?_
      refine pe_bipush d_M_inSequence_22 ?_
      refine pe_isub d_M_inSequence_24 ?_
      refine pe_putiT f_M_168 g_11_14 d_M_inSequence_25 rfl rfl 14 rfl hB (by first | exact hB _ _ | exact hB0 _ _ | exact hBt _ _ | exact ⟨by omega, by omega⟩) (fun σ25 hB e25 o25 f25 => ?_)
      try have u25_0 : σ25 29 1 = σ 29 1 := by first | exact o25 1 (by decide) | exact congrFun (f25 29 (by decide)) 1
      try have u25_1 : σ25 29 2 = σ 29 2 := by first | exact o25 2 (by decide) | exact congrFun (f25 29 (by decide)) 2
      try have u25_2 : σ25 29 3 = σ 29 3 := by first | exact o25 3 (by decide) | exact congrFun (f25 29 (by decide)) 3
      try have u25_3 : σ25 29 5 = σ 29 5 := by first | exact o25 5 (by decide) | exact congrFun (f25 29 (by decide)) 5
      try have u25_4 : σ25 29 6 = σ 29 6 := by first | exact o25 6 (by decide) | exact congrFun (f25 29 (by decide)) 6
      try have u25_5 : σ25 29 7 = σ 29 7 := by first | exact o25 7 (by decide) | exact congrFun (f25 29 (by decide)) 7
      try have u25_6 : σ25 29 19 = σ 29 19 := by first | exact o25 19 (by decide) | exact congrFun (f25 29 (by decide)) 19
      try have u25_7 : σ25 29 21 = σ 29 21 := by first | exact o25 21 (by decide) | exact congrFun (f25 29 (by decide)) 21
      try have u25_8 : σ25 29 13 = σ 29 13 := by first | exact o25 13 (by decide) | exact congrFun (f25 29 (by decide)) 13
      try have u25_9 : σ25 29 14 = σ 29 14 := by first | exact o25 14 (by decide) | exact congrFun (f25 29 (by decide)) 14
      try have u25_10 : σ25 29 15 = σ 29 15 := by first | exact o25 15 (by decide) | exact congrFun (f25 29 (by decide)) 15
      try have u25_11 : σ25 29 16 = σ 29 16 := by first | exact o25 16 (by decide) | exact congrFun (f25 29 (by decide)) 16
      try have u25_12 : σ25 29 17 = σ 29 17 := by first | exact o25 17 (by decide) | exact congrFun (f25 29 (by decide)) 17
      try have u25_13 : σ25 29 18 = σ 29 18 := by first | exact o25 18 (by decide) | exact congrFun (f25 29 (by decide)) 18
      try have u25_14 : σ25 29 20 = σ 29 20 := by first | exact o25 20 (by decide) | exact congrFun (f25 29 (by decide)) 20
      refine pe_aload_n d_M_inSequence_28 rfl ?_
      refine pe_aload_n d_M_inSequence_29 rfl ?_
      refine pe_geti f_M_168 d_M_inSequence_30 rfl rfl 14 rfl ?_
      refine pe_sipush d_M_inSequence_33 ?_
      refine pe_icmp_le (t := 45) d_M_inSequence_36 (by first | exact hB _ _ | exact hB0 _ _ | exact hBt _ _ | exact ⟨by omega, by omega⟩) (by first | exact hB _ _ | exact hB0 _ _ | exact hBt _ _ | exact ⟨by omega, by omega⟩) (fun h36 => ?_) (fun h36 => ?_)
      · skip
        refine pe_aload_n d_M_inSequence_45 rfl ?_
        refine pe_geti f_M_168 d_M_inSequence_46 rfl rfl 14 rfl ?_
        refine pe_putiT f_M_168 g_11_14 d_M_inSequence_49 rfl rfl 14 rfl hB (by first | exact hB _ _ | exact hB0 _ _ | exact hBt _ _ | exact ⟨by omega, by omega⟩) (fun σ49 hB e49 o49 f49 => ?_)
        try have u49_0 : σ49 29 1 = σ25 29 1 := by first | exact o49 1 (by decide) | exact congrFun (f49 29 (by decide)) 1
        try have u49_1 : σ49 29 2 = σ25 29 2 := by first | exact o49 2 (by decide) | exact congrFun (f49 29 (by decide)) 2
        try have u49_2 : σ49 29 3 = σ25 29 3 := by first | exact o49 3 (by decide) | exact congrFun (f49 29 (by decide)) 3
        try have u49_3 : σ49 29 5 = σ25 29 5 := by first | exact o49 5 (by decide) | exact congrFun (f49 29 (by decide)) 5
        try have u49_4 : σ49 29 6 = σ25 29 6 := by first | exact o49 6 (by decide) | exact congrFun (f49 29 (by decide)) 6
        try have u49_5 : σ49 29 7 = σ25 29 7 := by first | exact o49 7 (by decide) | exact congrFun (f49 29 (by decide)) 7
        try have u49_6 : σ49 29 19 = σ25 29 19 := by first | exact o49 19 (by decide) | exact congrFun (f49 29 (by decide)) 19
        try have u49_7 : σ49 29 21 = σ25 29 21 := by first | exact o49 21 (by decide) | exact congrFun (f49 29 (by decide)) 21
        try have u49_8 : σ49 29 13 = σ25 29 13 := by first | exact o49 13 (by decide) | exact congrFun (f49 29 (by decide)) 13
        try have u49_9 : σ49 29 14 = σ25 29 14 := by first | exact o49 14 (by decide) | exact congrFun (f49 29 (by decide)) 14
        try have u49_10 : σ49 29 15 = σ25 29 15 := by first | exact o49 15 (by decide) | exact congrFun (f49 29 (by decide)) 15
        try have u49_11 : σ49 29 16 = σ25 29 16 := by first | exact o49 16 (by decide) | exact congrFun (f49 29 (by decide)) 16
        try have u49_12 : σ49 29 17 = σ25 29 17 := by first | exact o49 17 (by decide) | exact congrFun (f49 29 (by decide)) 17
        try have u49_13 : σ49 29 18 = σ25 29 18 := by first | exact o49 18 (by decide) | exact congrFun (f49 29 (by decide)) 18
        try have u49_14 : σ49 29 20 = σ25 29 20 := by first | exact o49 20 (by decide) | exact congrFun (f49 29 (by decide)) 20
        have hA2 := pe_ra_f hA (fun b hb => ((f49 b (by rintro rfl; simp at hb)).trans (f25 b (by rintro rfl; simp at hb)))) (fun j hj => ((o49 j (by rintro rfl; simp at hj)).trans (o25 j (by rintro rfl; simp at hj))))
        have D2 := pe_2_dig hs.1 (by omega : 48 ≤ b ∧ b ≤ 57)
        refine pe_goto (t := 91) d_M_inSequence_52 ?_
        refine pe_rv d_M_inSequence_91 ?_
        first
        | exact ⟨hB, (fun b hb => (f49 b (by simp at hb ⊢; try omega)).trans ((f25 b (by simp at hb ⊢; try omega)).trans (rfl))), (fun j hj => (o49 j (by simp at hj ⊢; try omega)).trans ((o25 j (by simp at hj ⊢; try omega)).trans (rfl))), by rw [pe_st_1 D2.1 D2.2.1, pe_q_n1, pe_q_n1]; exact hA2, pe_rk_2 D2.2.2.1 ⟨by omega, by omega, by rw [D2.2.2.2]; omega, by show _ = b; omega⟩⟩
        | exact ⟨hB, (fun b hb => (f49 b (by simp at hb ⊢; try omega)).trans ((f25 b (by simp at hb ⊢; try omega)).trans (rfl))), (fun j hj => (o49 j (by simp at hj ⊢; try omega)).trans ((o25 j (by simp at hj ⊢; try omega)).trans (rfl))), by rw [pe_st_1 F2.1 F2.2.1, pe_q_n1]; exact x74, pe_rk_00 F2.2.2 ⟨by omega, by omega, by show _ = b; omega⟩⟩
        | exact ⟨hB, (fun b hb => (f49 b (by simp at hb ⊢; try omega)).trans ((f25 b (by simp at hb ⊢; try omega)).trans (rfl))), (fun j hj => (o49 j (by simp at hj ⊢; try omega)).trans ((o25 j (by simp at hj ⊢; try omega)).trans (rfl))), by rw [pe_st_1 O2.1 rfl, pe_q_n1]; exact x88.1, x88.2⟩
      · skip
        refine pe_sipush d_M_inSequence_39 ?_
        refine pe_goto (t := 49) d_M_inSequence_42 ?_
        refine pe_putiT f_M_168 g_11_14 d_M_inSequence_49 rfl rfl 14 rfl hB (by first | exact hB _ _ | exact hB0 _ _ | exact hBt _ _ | exact ⟨by omega, by omega⟩) (fun σ49 hB e49 o49 f49 => ?_)
        try have u49_0 : σ49 29 1 = σ25 29 1 := by first | exact o49 1 (by decide) | exact congrFun (f49 29 (by decide)) 1
        try have u49_1 : σ49 29 2 = σ25 29 2 := by first | exact o49 2 (by decide) | exact congrFun (f49 29 (by decide)) 2
        try have u49_2 : σ49 29 3 = σ25 29 3 := by first | exact o49 3 (by decide) | exact congrFun (f49 29 (by decide)) 3
        try have u49_3 : σ49 29 5 = σ25 29 5 := by first | exact o49 5 (by decide) | exact congrFun (f49 29 (by decide)) 5
        try have u49_4 : σ49 29 6 = σ25 29 6 := by first | exact o49 6 (by decide) | exact congrFun (f49 29 (by decide)) 6
        try have u49_5 : σ49 29 7 = σ25 29 7 := by first | exact o49 7 (by decide) | exact congrFun (f49 29 (by decide)) 7
        try have u49_6 : σ49 29 19 = σ25 29 19 := by first | exact o49 19 (by decide) | exact congrFun (f49 29 (by decide)) 19
        try have u49_7 : σ49 29 21 = σ25 29 21 := by first | exact o49 21 (by decide) | exact congrFun (f49 29 (by decide)) 21
        try have u49_8 : σ49 29 13 = σ25 29 13 := by first | exact o49 13 (by decide) | exact congrFun (f49 29 (by decide)) 13
        try have u49_9 : σ49 29 14 = σ25 29 14 := by first | exact o49 14 (by decide) | exact congrFun (f49 29 (by decide)) 14
        try have u49_10 : σ49 29 15 = σ25 29 15 := by first | exact o49 15 (by decide) | exact congrFun (f49 29 (by decide)) 15
        try have u49_11 : σ49 29 16 = σ25 29 16 := by first | exact o49 16 (by decide) | exact congrFun (f49 29 (by decide)) 16
        try have u49_12 : σ49 29 17 = σ25 29 17 := by first | exact o49 17 (by decide) | exact congrFun (f49 29 (by decide)) 17
        try have u49_13 : σ49 29 18 = σ25 29 18 := by first | exact o49 18 (by decide) | exact congrFun (f49 29 (by decide)) 18
        try have u49_14 : σ49 29 20 = σ25 29 20 := by first | exact o49 20 (by decide) | exact congrFun (f49 29 (by decide)) 20
        have hA2 := pe_ra_f hA (fun b hb => ((f49 b (by rintro rfl; simp at hb)).trans (f25 b (by rintro rfl; simp at hb)))) (fun j hj => ((o49 j (by rintro rfl; simp at hj)).trans (o25 j (by rintro rfl; simp at hj))))
        have D2 := pe_2_dig hs.1 (by omega : 48 ≤ b ∧ b ≤ 57)
        refine pe_goto (t := 91) d_M_inSequence_52 ?_
        refine pe_rv d_M_inSequence_91 ?_
        first
        | exact ⟨hB, (fun b hb => (f49 b (by simp at hb ⊢; try omega)).trans ((f25 b (by simp at hb ⊢; try omega)).trans (rfl))), (fun j hj => (o49 j (by simp at hj ⊢; try omega)).trans ((o25 j (by simp at hj ⊢; try omega)).trans (rfl))), by rw [pe_st_1 D2.1 D2.2.1, pe_q_n1, pe_q_n1]; exact hA2, pe_rk_2 D2.2.2.1 ⟨by omega, by omega, by rw [D2.2.2.2]; omega, by show _ = b; omega⟩⟩
        | exact ⟨hB, (fun b hb => (f49 b (by simp at hb ⊢; try omega)).trans ((f25 b (by simp at hb ⊢; try omega)).trans (rfl))), (fun j hj => (o49 j (by simp at hj ⊢; try omega)).trans ((o25 j (by simp at hj ⊢; try omega)).trans (rfl))), by rw [pe_st_1 F2.1 F2.2.1, pe_q_n1]; exact x74, pe_rk_00 F2.2.2 ⟨by omega, by omega, by show _ = b; omega⟩⟩
        | exact ⟨hB, (fun b hb => (f49 b (by simp at hb ⊢; try omega)).trans ((f25 b (by simp at hb ⊢; try omega)).trans (rfl))), (fun j hj => (o49 j (by simp at hj ⊢; try omega)).trans ((o25 j (by simp at hj ⊢; try omega)).trans (rfl))), by rw [pe_st_1 O2.1 rfl, pe_q_n1]; exact x88.1, x88.2⟩
theorem x_M_take {m σ : pe_H} {s : Int → Int} {b : Int} (hB : pe_B σ) (hA : pe_ra m σ) (hw : pe_wf m) (hk : m 5 0 ≤ 10) (hg : pe_bg (m 8) (m 0 0) (m 1 0)) (hkw : pe_kw s) (hr : pe_rk s σ) (hb : 0 ≤ b ∧ b ≤ 255) : pe_M m_M_take [pe_r 29, pe_i b] σ (pe_qv (fun σ' => pe_B σ' ∧ (∀ b, b ∉ [29, 30, 32, 33, 34, 35, 36, 31, 37, 38, 39] → σ' b = σ b) ∧ (∀ j, j ∉ ([1, 2, 3, 5, 6, 7, 13, 14, 15, 16, 17, 18, 19, 20, 26, 41] : List Int) → σ' 29 j = σ 29 j) ∧ (pe_ra (pe_st pe_ePq (m, s) b).1 σ' ∧ pe_rk (pe_ky (pe_kx s b) b) σ'))) := by
  refine pe_in0 (lv := [some (pe_r 29), some (pe_i b), none]) ?_
  have hB0 := hB
  obtain ⟨⟨⟨a1, a2, a3, a4, a5⟩, a7, a8, a9⟩, A2, A3, A4⟩ := id hA
  obtain ⟨⟨w1, w2, w3, w4, w5, w6, w7, w8⟩, W2, W3⟩ := id hw
  have hk1 : m 5 0 ≤ 11 := by omega
  have KW := hkw
  unfold pe_kw at KW
  obtain ⟨R1, R2, R3⟩ := id hr
  refine pe_aload_n d_M_take_0 rfl ?_
  refine pe_geti f_M_38 d_M_take_1 rfl rfl 20 rfl ?_
  refine pe_istore_n d_M_take_4 ?_
  refine pe_aload_n d_M_take_5 rfl ?_
  refine pe_iload_n d_M_take_6 rfl ?_
  refine pe_putiT f_M_38 g_11_20 d_M_take_7 rfl rfl 20 rfl hB (by first | exact hB _ _ | exact hB0 _ _ | exact hBt _ _ | exact ⟨by omega, by omega⟩) (fun σ7 hB e7 o7 f7 => ?_)
  try have u7_0 : σ7 29 1 = σ 29 1 := by first | exact o7 1 (by decide) | exact congrFun (f7 29 (by decide)) 1
  try have u7_1 : σ7 29 2 = σ 29 2 := by first | exact o7 2 (by decide) | exact congrFun (f7 29 (by decide)) 2
  try have u7_2 : σ7 29 3 = σ 29 3 := by first | exact o7 3 (by decide) | exact congrFun (f7 29 (by decide)) 3
  try have u7_3 : σ7 29 5 = σ 29 5 := by first | exact o7 5 (by decide) | exact congrFun (f7 29 (by decide)) 5
  try have u7_4 : σ7 29 6 = σ 29 6 := by first | exact o7 6 (by decide) | exact congrFun (f7 29 (by decide)) 6
  try have u7_5 : σ7 29 7 = σ 29 7 := by first | exact o7 7 (by decide) | exact congrFun (f7 29 (by decide)) 7
  try have u7_6 : σ7 29 19 = σ 29 19 := by first | exact o7 19 (by decide) | exact congrFun (f7 29 (by decide)) 19
  try have u7_7 : σ7 29 21 = σ 29 21 := by first | exact o7 21 (by decide) | exact congrFun (f7 29 (by decide)) 21
  try have u7_8 : σ7 29 13 = σ 29 13 := by first | exact o7 13 (by decide) | exact congrFun (f7 29 (by decide)) 13
  try have u7_9 : σ7 29 14 = σ 29 14 := by first | exact o7 14 (by decide) | exact congrFun (f7 29 (by decide)) 14
  try have u7_10 : σ7 29 15 = σ 29 15 := by first | exact o7 15 (by decide) | exact congrFun (f7 29 (by decide)) 15
  try have u7_11 : σ7 29 16 = σ 29 16 := by first | exact o7 16 (by decide) | exact congrFun (f7 29 (by decide)) 16
  try have u7_12 : σ7 29 17 = σ 29 17 := by first | exact o7 17 (by decide) | exact congrFun (f7 29 (by decide)) 17
  try have u7_13 : σ7 29 18 = σ 29 18 := by first | exact o7 18 (by decide) | exact congrFun (f7 29 (by decide)) 18
  try have u7_14 : σ7 29 20 = σ 29 20 := by first | exact o7 20 (by decide) | exact congrFun (f7 29 (by decide)) 20
  have hA1 := pe_ra_f hA (fun b hb => (f7 b (by rintro rfl; simp at hb))) (fun j hj => (o7 j (by rintro rfl; simp at hj)))
  refine pe_aload_n d_M_take_10 rfl ?_
  refine pe_geti f_M_184 d_M_take_11 rfl rfl 15 rfl ?_
  refine pe_if_le (t := 26) d_M_take_14 (by first | exact hB _ _ | exact hB0 _ _ | exact hBt _ _ | exact ⟨by omega, by omega⟩) (fun h14 => ?_) (fun h14 => ?_)
  · skip
    refine pe_aload_n d_M_take_26 rfl ?_
    refine pe_geti f_M_181 d_M_take_27 rfl rfl 13 rfl ?_
    refine pe_if_ne (t := 42) d_M_take_30 (by first | exact hB _ _ | exact hB0 _ _ | exact hBt _ _ | exact ⟨by omega, by omega⟩) (fun h30 => ?_) (fun h30 => ?_)
    · skip
      refine pe_aload_n d_M_take_42 rfl ?_
      refine pe_geti f_M_181 d_M_take_43 rfl rfl 13 rfl ?_
      refine pe_iconst d_M_take_46 ?_
      refine pe_icmp_ne (t := 59) d_M_take_47 (by first | exact hB _ _ | exact hB0 _ _ | exact hBt _ _ | exact ⟨by omega, by omega⟩) (by first | exact hB _ _ | exact hB0 _ _ | exact hBt _ _ | exact ⟨by omega, by omega⟩) (fun h47 => ?_) (fun h47 => ?_)
      · skip
        have s0 : s 0 = 1 := by omega
        refine pe_iload_n d_M_take_59 rfl ?_
        refine pe_bipush d_M_take_60 ?_
        refine pe_icmp_ne (t := 78) d_M_take_62 (by first | exact hB _ _ | exact hB0 _ _ | exact hBt _ _ | exact ⟨by omega, by omega⟩) (by first | exact hB _ _ | exact hB0 _ _ | exact hBt _ _ | exact ⟨by omega, by omega⟩) (fun h62 => ?_) (fun h62 => ?_)
        · skip
          have E1 := pe_1_out s0 (by omega : b ≠ 91)
          refine pe_aload_n d_M_take_78 rfl ?_
          refine pe_v0v d_M_take_79 c_M_212 i_M_escapeKey s_M_escapeKey rfl rfl (x_M_escapeKey hB hA1 hw hk1 hg) (fun σ79 hz79 => ?_)
          obtain ⟨hB, f79, o79, x79⟩ := hz79
          try have u79_0 : σ79 29 1 = σ7 29 1 := by first | exact o79 1 (by decide) | exact congrFun (f79 29 (by decide)) 1
          try have u79_1 : σ79 29 2 = σ7 29 2 := by first | exact o79 2 (by decide) | exact congrFun (f79 29 (by decide)) 2
          try have u79_2 : σ79 29 3 = σ7 29 3 := by first | exact o79 3 (by decide) | exact congrFun (f79 29 (by decide)) 3
          try have u79_3 : σ79 29 5 = σ7 29 5 := by first | exact o79 5 (by decide) | exact congrFun (f79 29 (by decide)) 5
          try have u79_4 : σ79 29 6 = σ7 29 6 := by first | exact o79 6 (by decide) | exact congrFun (f79 29 (by decide)) 6
          try have u79_5 : σ79 29 7 = σ7 29 7 := by first | exact o79 7 (by decide) | exact congrFun (f79 29 (by decide)) 7
          try have u79_6 : σ79 29 19 = σ7 29 19 := by first | exact o79 19 (by decide) | exact congrFun (f79 29 (by decide)) 19
          try have u79_7 : σ79 29 21 = σ7 29 21 := by first | exact o79 21 (by decide) | exact congrFun (f79 29 (by decide)) 21
          try have u79_8 : σ79 29 13 = σ7 29 13 := by first | exact o79 13 (by decide) | exact congrFun (f79 29 (by decide)) 13
          try have u79_9 : σ79 29 14 = σ7 29 14 := by first | exact o79 14 (by decide) | exact congrFun (f79 29 (by decide)) 14
          try have u79_10 : σ79 29 15 = σ7 29 15 := by first | exact o79 15 (by decide) | exact congrFun (f79 29 (by decide)) 15
          try have u79_11 : σ79 29 16 = σ7 29 16 := by first | exact o79 16 (by decide) | exact congrFun (f79 29 (by decide)) 16
          try have u79_12 : σ79 29 17 = σ7 29 17 := by first | exact o79 17 (by decide) | exact congrFun (f79 29 (by decide)) 17
          try have u79_13 : σ79 29 18 = σ7 29 18 := by first | exact o79 18 (by decide) | exact congrFun (f79 29 (by decide)) 18
          try have u79_14 : σ79 29 20 = σ7 29 20 := by first | exact o79 20 (by decide) | exact congrFun (f79 29 (by decide)) 20
          have w79 := pe_gd_q.1 m 27 hw
          have g79 := pe_gd_q.2.1 m 27 hw hg
          have n79 := pe_gd_q.2.2.1 m 27
          refine pe_iload_n d_M_take_82 rfl ?_
          refine pe_bipush d_M_take_83 ?_
          refine pe_icmp_eq (t := 99) d_M_take_85 (by first | exact hB _ _ | exact hB0 _ _ | exact hBt _ _ | exact ⟨by omega, by omega⟩) (by first | exact hB _ _ | exact hB0 _ _ | exact hBt _ _ | exact ⟨by omega, by omega⟩) (fun h85 => ?_) (fun h85 => ?_)
          · skip
            refine pe_rv d_M_take_99 ?_
            first
            | exact ⟨hB, (fun b hb => (f79 b (by simp at hb ⊢; try omega)).trans ((f7 b (by simp at hb ⊢; try omega)).trans (rfl))), (fun j hj => (o79 j (by simp at hj ⊢; try omega)).trans ((o7 j (by simp at hj ⊢; try omega)).trans (rfl))), x20⟩
            | exact ⟨hB, (fun b hb => (f79 b (by simp at hb ⊢; try omega)).trans ((f7 b (by simp at hb ⊢; try omega)).trans (rfl))), (fun j hj => (o79 j (by simp at hj ⊢; try omega)).trans ((o7 j (by simp at hj ⊢; try omega)).trans (rfl))), x53⟩
            | exact ⟨hB, (fun b hb => (f79 b (by simp at hb ⊢; try omega)).trans ((f7 b (by simp at hb ⊢; try omega)).trans (rfl))), (fun j hj => (o79 j (by simp at hj ⊢; try omega)).trans ((o7 j (by simp at hj ⊢; try omega)).trans (rfl))), by rw [pe_st_1 Z.1 rfl, pe_q_n1]; exact x36.1, x36.2⟩
            | exact ⟨hB, (fun b hb => (f79 b (by simp at hb ⊢; try omega)).trans ((f7 b (by simp at hb ⊢; try omega)).trans (rfl))), (fun j hj => (o79 j (by simp at hj ⊢; try omega)).trans ((o7 j (by simp at hj ⊢; try omega)).trans (rfl))), by rw [pe_st_1 S1.1 S1.2.1, pe_q_n1, pe_q_n1]; exact hA2, pe_rk_2 S1.2.2.1 ⟨by omega, by omega, by rw [S1.2.2.2]; omega, by show _ = b; omega⟩⟩
            | exact ⟨hB, (fun b hb => (f79 b (by simp at hb ⊢; try omega)).trans ((f7 b (by simp at hb ⊢; try omega)).trans (rfl))), (fun j hj => (o79 j (by simp at hj ⊢; try omega)).trans ((o7 j (by simp at hj ⊢; try omega)).trans (rfl))), by rw [pe_st_1 E1.1 rfl]; exact x96.1, x96.2⟩
            | exact ⟨hB, (fun b hb => (f79 b (by simp at hb ⊢; try omega)).trans ((f7 b (by simp at hb ⊢; try omega)).trans (rfl))), (fun j hj => (o79 j (by simp at hj ⊢; try omega)).trans ((o7 j (by simp at hj ⊢; try omega)).trans (rfl))), by rw [pe_st_1 E1.1 ((pe_kk_p E1.2).trans (if_pos (by omega))), pe_q_n1]; exact x79, pe_rk_e E1.2 (by omega) (by omega)⟩
          · skip
            refine pe_aload_n d_M_take_88 rfl ?_
            refine pe_iconst d_M_take_89 ?_
            refine pe_putiT f_M_181 g_11_13 d_M_take_90 rfl rfl 13 rfl hB (by first | exact hB _ _ | exact hB0 _ _ | exact hBt _ _ | exact ⟨by omega, by omega⟩) (fun σ90 hB e90 o90 f90 => ?_)
            try have u90_0 : σ90 29 1 = σ79 29 1 := by first | exact o90 1 (by decide) | exact congrFun (f90 29 (by decide)) 1
            try have u90_1 : σ90 29 2 = σ79 29 2 := by first | exact o90 2 (by decide) | exact congrFun (f90 29 (by decide)) 2
            try have u90_2 : σ90 29 3 = σ79 29 3 := by first | exact o90 3 (by decide) | exact congrFun (f90 29 (by decide)) 3
            try have u90_3 : σ90 29 5 = σ79 29 5 := by first | exact o90 5 (by decide) | exact congrFun (f90 29 (by decide)) 5
            try have u90_4 : σ90 29 6 = σ79 29 6 := by first | exact o90 6 (by decide) | exact congrFun (f90 29 (by decide)) 6
            try have u90_5 : σ90 29 7 = σ79 29 7 := by first | exact o90 7 (by decide) | exact congrFun (f90 29 (by decide)) 7
            try have u90_6 : σ90 29 19 = σ79 29 19 := by first | exact o90 19 (by decide) | exact congrFun (f90 29 (by decide)) 19
            try have u90_7 : σ90 29 21 = σ79 29 21 := by first | exact o90 21 (by decide) | exact congrFun (f90 29 (by decide)) 21
            try have u90_8 : σ90 29 13 = σ79 29 13 := by first | exact o90 13 (by decide) | exact congrFun (f90 29 (by decide)) 13
            try have u90_9 : σ90 29 14 = σ79 29 14 := by first | exact o90 14 (by decide) | exact congrFun (f90 29 (by decide)) 14
            try have u90_10 : σ90 29 15 = σ79 29 15 := by first | exact o90 15 (by decide) | exact congrFun (f90 29 (by decide)) 15
            try have u90_11 : σ90 29 16 = σ79 29 16 := by first | exact o90 16 (by decide) | exact congrFun (f90 29 (by decide)) 16
            try have u90_12 : σ90 29 17 = σ79 29 17 := by first | exact o90 17 (by decide) | exact congrFun (f90 29 (by decide)) 17
            try have u90_13 : σ90 29 18 = σ79 29 18 := by first | exact o90 18 (by decide) | exact congrFun (f90 29 (by decide)) 18
            try have u90_14 : σ90 29 20 = σ79 29 20 := by first | exact o90 20 (by decide) | exact congrFun (f90 29 (by decide)) 20
            have hA3 := pe_ra_f x79 (fun b hb => (f90 b (by rintro rfl; simp at hb))) (fun j hj => (o90 j (by rintro rfl; simp at hj)))
            refine pe_aload_n d_M_take_93 rfl ?_
            refine pe_iload_n d_M_take_94 rfl ?_
            refine pe_iload_n d_M_take_95 rfl ?_
            refine pe_v2v d_M_take_96 c_M_200 i_M_plain s_M_plain rfl rfl (x_M_plain (s := pe_kx s b) hB hA3 w79 (by omega) g79 ⟨E1.2, R3.symm⟩ (by omega) (by omega) (by first | exact hB _ _ | exact hB0 _ _ | exact hBt _ _ | exact ⟨by omega, by omega⟩)) (fun σ96 hz96 => ?_)
            obtain ⟨hB, f96, o96, x96⟩ := hz96
            try have u96_0 : σ96 29 1 = σ90 29 1 := by first | exact o96 1 (by decide) | exact congrFun (f96 29 (by decide)) 1
            try have u96_1 : σ96 29 2 = σ90 29 2 := by first | exact o96 2 (by decide) | exact congrFun (f96 29 (by decide)) 2
            try have u96_2 : σ96 29 3 = σ90 29 3 := by first | exact o96 3 (by decide) | exact congrFun (f96 29 (by decide)) 3
            try have u96_3 : σ96 29 5 = σ90 29 5 := by first | exact o96 5 (by decide) | exact congrFun (f96 29 (by decide)) 5
            try have u96_4 : σ96 29 6 = σ90 29 6 := by first | exact o96 6 (by decide) | exact congrFun (f96 29 (by decide)) 6
            try have u96_5 : σ96 29 7 = σ90 29 7 := by first | exact o96 7 (by decide) | exact congrFun (f96 29 (by decide)) 7
            try have u96_6 : σ96 29 19 = σ90 29 19 := by first | exact o96 19 (by decide) | exact congrFun (f96 29 (by decide)) 19
            try have u96_7 : σ96 29 21 = σ90 29 21 := by first | exact o96 21 (by decide) | exact congrFun (f96 29 (by decide)) 21
            try have u96_8 : σ96 29 13 = σ90 29 13 := by first | exact o96 13 (by decide) | exact congrFun (f96 29 (by decide)) 13
            try have u96_9 : σ96 29 14 = σ90 29 14 := by first | exact o96 14 (by decide) | exact congrFun (f96 29 (by decide)) 14
            try have u96_10 : σ96 29 15 = σ90 29 15 := by first | exact o96 15 (by decide) | exact congrFun (f96 29 (by decide)) 15
            try have u96_11 : σ96 29 16 = σ90 29 16 := by first | exact o96 16 (by decide) | exact congrFun (f96 29 (by decide)) 16
            try have u96_12 : σ96 29 17 = σ90 29 17 := by first | exact o96 17 (by decide) | exact congrFun (f96 29 (by decide)) 17
            try have u96_13 : σ96 29 18 = σ90 29 18 := by first | exact o96 18 (by decide) | exact congrFun (f96 29 (by decide)) 18
            try have u96_14 : σ96 29 20 = σ90 29 20 := by first | exact o96 20 (by decide) | exact congrFun (f96 29 (by decide)) 20
            skip
            refine pe_rv d_M_take_99 ?_
            first
            | exact ⟨hB, (fun b hb => (f96 b (by simp at hb ⊢; try omega)).trans ((f90 b (by simp at hb ⊢; try omega)).trans ((f79 b (by simp at hb ⊢; try omega)).trans ((f7 b (by simp at hb ⊢; try omega)).trans (rfl))))), (fun j hj => (o96 j (by simp at hj ⊢; try omega)).trans ((o90 j (by simp at hj ⊢; try omega)).trans ((o79 j (by simp at hj ⊢; try omega)).trans ((o7 j (by simp at hj ⊢; try omega)).trans (rfl))))), x20⟩
            | exact ⟨hB, (fun b hb => (f96 b (by simp at hb ⊢; try omega)).trans ((f90 b (by simp at hb ⊢; try omega)).trans ((f79 b (by simp at hb ⊢; try omega)).trans ((f7 b (by simp at hb ⊢; try omega)).trans (rfl))))), (fun j hj => (o96 j (by simp at hj ⊢; try omega)).trans ((o90 j (by simp at hj ⊢; try omega)).trans ((o79 j (by simp at hj ⊢; try omega)).trans ((o7 j (by simp at hj ⊢; try omega)).trans (rfl))))), x53⟩
            | exact ⟨hB, (fun b hb => (f96 b (by simp at hb ⊢; try omega)).trans ((f90 b (by simp at hb ⊢; try omega)).trans ((f79 b (by simp at hb ⊢; try omega)).trans ((f7 b (by simp at hb ⊢; try omega)).trans (rfl))))), (fun j hj => (o96 j (by simp at hj ⊢; try omega)).trans ((o90 j (by simp at hj ⊢; try omega)).trans ((o79 j (by simp at hj ⊢; try omega)).trans ((o7 j (by simp at hj ⊢; try omega)).trans (rfl))))), by rw [pe_st_1 Z.1 rfl, pe_q_n1]; exact x36.1, x36.2⟩
            | exact ⟨hB, (fun b hb => (f96 b (by simp at hb ⊢; try omega)).trans ((f90 b (by simp at hb ⊢; try omega)).trans ((f79 b (by simp at hb ⊢; try omega)).trans ((f7 b (by simp at hb ⊢; try omega)).trans (rfl))))), (fun j hj => (o96 j (by simp at hj ⊢; try omega)).trans ((o90 j (by simp at hj ⊢; try omega)).trans ((o79 j (by simp at hj ⊢; try omega)).trans ((o7 j (by simp at hj ⊢; try omega)).trans (rfl))))), by rw [pe_st_1 S1.1 S1.2.1, pe_q_n1, pe_q_n1]; exact hA2, pe_rk_2 S1.2.2.1 ⟨by omega, by omega, by rw [S1.2.2.2]; omega, by show _ = b; omega⟩⟩
            | exact ⟨hB, (fun b hb => (f96 b (by simp at hb ⊢; try omega)).trans ((f90 b (by simp at hb ⊢; try omega)).trans ((f79 b (by simp at hb ⊢; try omega)).trans ((f7 b (by simp at hb ⊢; try omega)).trans (rfl))))), (fun j hj => (o96 j (by simp at hj ⊢; try omega)).trans ((o90 j (by simp at hj ⊢; try omega)).trans ((o79 j (by simp at hj ⊢; try omega)).trans ((o7 j (by simp at hj ⊢; try omega)).trans (rfl))))), by rw [pe_st_1 E1.1 rfl]; exact x96.1, x96.2⟩
            | exact ⟨hB, (fun b hb => (f96 b (by simp at hb ⊢; try omega)).trans ((f90 b (by simp at hb ⊢; try omega)).trans ((f79 b (by simp at hb ⊢; try omega)).trans ((f7 b (by simp at hb ⊢; try omega)).trans (rfl))))), (fun j hj => (o96 j (by simp at hj ⊢; try omega)).trans ((o90 j (by simp at hj ⊢; try omega)).trans ((o79 j (by simp at hj ⊢; try omega)).trans ((o7 j (by simp at hj ⊢; try omega)).trans (rfl))))), by rw [pe_st_1 E1.1 ((pe_kk_p E1.2).trans (if_pos (by omega))), pe_q_n1]; exact x79, pe_rk_e E1.2 (by omega) (by omega)⟩
        · skip
          refine pe_aload_n d_M_take_65 rfl ?_
          refine pe_iconst d_M_take_66 ?_
          refine pe_putiT f_M_181 g_11_13 d_M_take_67 rfl rfl 13 rfl hB (by first | exact hB _ _ | exact hB0 _ _ | exact hBt _ _ | exact ⟨by omega, by omega⟩) (fun σ67 hB e67 o67 f67 => ?_)
          try have u67_0 : σ67 29 1 = σ7 29 1 := by first | exact o67 1 (by decide) | exact congrFun (f67 29 (by decide)) 1
          try have u67_1 : σ67 29 2 = σ7 29 2 := by first | exact o67 2 (by decide) | exact congrFun (f67 29 (by decide)) 2
          try have u67_2 : σ67 29 3 = σ7 29 3 := by first | exact o67 3 (by decide) | exact congrFun (f67 29 (by decide)) 3
          try have u67_3 : σ67 29 5 = σ7 29 5 := by first | exact o67 5 (by decide) | exact congrFun (f67 29 (by decide)) 5
          try have u67_4 : σ67 29 6 = σ7 29 6 := by first | exact o67 6 (by decide) | exact congrFun (f67 29 (by decide)) 6
          try have u67_5 : σ67 29 7 = σ7 29 7 := by first | exact o67 7 (by decide) | exact congrFun (f67 29 (by decide)) 7
          try have u67_6 : σ67 29 19 = σ7 29 19 := by first | exact o67 19 (by decide) | exact congrFun (f67 29 (by decide)) 19
          try have u67_7 : σ67 29 21 = σ7 29 21 := by first | exact o67 21 (by decide) | exact congrFun (f67 29 (by decide)) 21
          try have u67_8 : σ67 29 13 = σ7 29 13 := by first | exact o67 13 (by decide) | exact congrFun (f67 29 (by decide)) 13
          try have u67_9 : σ67 29 14 = σ7 29 14 := by first | exact o67 14 (by decide) | exact congrFun (f67 29 (by decide)) 14
          try have u67_10 : σ67 29 15 = σ7 29 15 := by first | exact o67 15 (by decide) | exact congrFun (f67 29 (by decide)) 15
          try have u67_11 : σ67 29 16 = σ7 29 16 := by first | exact o67 16 (by decide) | exact congrFun (f67 29 (by decide)) 16
          try have u67_12 : σ67 29 17 = σ7 29 17 := by first | exact o67 17 (by decide) | exact congrFun (f67 29 (by decide)) 17
          try have u67_13 : σ67 29 18 = σ7 29 18 := by first | exact o67 18 (by decide) | exact congrFun (f67 29 (by decide)) 18
          try have u67_14 : σ67 29 20 = σ7 29 20 := by first | exact o67 20 (by decide) | exact congrFun (f67 29 (by decide)) 20
          refine pe_aload_n d_M_take_70 rfl ?_
          refine pe_iconst d_M_take_71 ?_
          refine pe_putiT f_M_168 g_11_14 d_M_take_72 rfl rfl 14 rfl hB (by first | exact hB _ _ | exact hB0 _ _ | exact hBt _ _ | exact ⟨by omega, by omega⟩) (fun σ72 hB e72 o72 f72 => ?_)
          try have u72_0 : σ72 29 1 = σ67 29 1 := by first | exact o72 1 (by decide) | exact congrFun (f72 29 (by decide)) 1
          try have u72_1 : σ72 29 2 = σ67 29 2 := by first | exact o72 2 (by decide) | exact congrFun (f72 29 (by decide)) 2
          try have u72_2 : σ72 29 3 = σ67 29 3 := by first | exact o72 3 (by decide) | exact congrFun (f72 29 (by decide)) 3
          try have u72_3 : σ72 29 5 = σ67 29 5 := by first | exact o72 5 (by decide) | exact congrFun (f72 29 (by decide)) 5
          try have u72_4 : σ72 29 6 = σ67 29 6 := by first | exact o72 6 (by decide) | exact congrFun (f72 29 (by decide)) 6
          try have u72_5 : σ72 29 7 = σ67 29 7 := by first | exact o72 7 (by decide) | exact congrFun (f72 29 (by decide)) 7
          try have u72_6 : σ72 29 19 = σ67 29 19 := by first | exact o72 19 (by decide) | exact congrFun (f72 29 (by decide)) 19
          try have u72_7 : σ72 29 21 = σ67 29 21 := by first | exact o72 21 (by decide) | exact congrFun (f72 29 (by decide)) 21
          try have u72_8 : σ72 29 13 = σ67 29 13 := by first | exact o72 13 (by decide) | exact congrFun (f72 29 (by decide)) 13
          try have u72_9 : σ72 29 14 = σ67 29 14 := by first | exact o72 14 (by decide) | exact congrFun (f72 29 (by decide)) 14
          try have u72_10 : σ72 29 15 = σ67 29 15 := by first | exact o72 15 (by decide) | exact congrFun (f72 29 (by decide)) 15
          try have u72_11 : σ72 29 16 = σ67 29 16 := by first | exact o72 16 (by decide) | exact congrFun (f72 29 (by decide)) 16
          try have u72_12 : σ72 29 17 = σ67 29 17 := by first | exact o72 17 (by decide) | exact congrFun (f72 29 (by decide)) 17
          try have u72_13 : σ72 29 18 = σ67 29 18 := by first | exact o72 18 (by decide) | exact congrFun (f72 29 (by decide)) 18
          try have u72_14 : σ72 29 20 = σ67 29 20 := by first | exact o72 20 (by decide) | exact congrFun (f72 29 (by decide)) 20
          have hA2 := pe_ra_f hA (fun b hb => ((f72 b (by rintro rfl; simp at hb)).trans ((f67 b (by rintro rfl; simp at hb)).trans (f7 b (by rintro rfl; simp at hb))))) (fun j hj => ((o72 j (by rintro rfl; simp at hj)).trans ((o67 j (by rintro rfl; simp at hj)).trans (o7 j (by rintro rfl; simp at hj)))))
          have S1 := pe_1_seq s0 (by omega : b = 91)
          refine pe_goto (t := 99) d_M_take_75 ?_
          refine pe_rv d_M_take_99 ?_
          first
          | exact ⟨hB, (fun b hb => (f72 b (by simp at hb ⊢; try omega)).trans ((f67 b (by simp at hb ⊢; try omega)).trans ((f7 b (by simp at hb ⊢; try omega)).trans (rfl)))), (fun j hj => (o72 j (by simp at hj ⊢; try omega)).trans ((o67 j (by simp at hj ⊢; try omega)).trans ((o7 j (by simp at hj ⊢; try omega)).trans (rfl)))), x20⟩
          | exact ⟨hB, (fun b hb => (f72 b (by simp at hb ⊢; try omega)).trans ((f67 b (by simp at hb ⊢; try omega)).trans ((f7 b (by simp at hb ⊢; try omega)).trans (rfl)))), (fun j hj => (o72 j (by simp at hj ⊢; try omega)).trans ((o67 j (by simp at hj ⊢; try omega)).trans ((o7 j (by simp at hj ⊢; try omega)).trans (rfl)))), x53⟩
          | exact ⟨hB, (fun b hb => (f72 b (by simp at hb ⊢; try omega)).trans ((f67 b (by simp at hb ⊢; try omega)).trans ((f7 b (by simp at hb ⊢; try omega)).trans (rfl)))), (fun j hj => (o72 j (by simp at hj ⊢; try omega)).trans ((o67 j (by simp at hj ⊢; try omega)).trans ((o7 j (by simp at hj ⊢; try omega)).trans (rfl)))), by rw [pe_st_1 Z.1 rfl, pe_q_n1]; exact x36.1, x36.2⟩
          | exact ⟨hB, (fun b hb => (f72 b (by simp at hb ⊢; try omega)).trans ((f67 b (by simp at hb ⊢; try omega)).trans ((f7 b (by simp at hb ⊢; try omega)).trans (rfl)))), (fun j hj => (o72 j (by simp at hj ⊢; try omega)).trans ((o67 j (by simp at hj ⊢; try omega)).trans ((o7 j (by simp at hj ⊢; try omega)).trans (rfl)))), by rw [pe_st_1 S1.1 S1.2.1, pe_q_n1, pe_q_n1]; exact hA2, pe_rk_2 S1.2.2.1 ⟨by omega, by omega, by rw [S1.2.2.2]; omega, by show _ = b; omega⟩⟩
          | exact ⟨hB, (fun b hb => (f72 b (by simp at hb ⊢; try omega)).trans ((f67 b (by simp at hb ⊢; try omega)).trans ((f7 b (by simp at hb ⊢; try omega)).trans (rfl)))), (fun j hj => (o72 j (by simp at hj ⊢; try omega)).trans ((o67 j (by simp at hj ⊢; try omega)).trans ((o7 j (by simp at hj ⊢; try omega)).trans (rfl)))), by rw [pe_st_1 E1.1 rfl]; exact x96.1, x96.2⟩
          | exact ⟨hB, (fun b hb => (f72 b (by simp at hb ⊢; try omega)).trans ((f67 b (by simp at hb ⊢; try omega)).trans ((f7 b (by simp at hb ⊢; try omega)).trans (rfl)))), (fun j hj => (o72 j (by simp at hj ⊢; try omega)).trans ((o67 j (by simp at hj ⊢; try omega)).trans ((o7 j (by simp at hj ⊢; try omega)).trans (rfl)))), by rw [pe_st_1 E1.1 ((pe_kk_p E1.2).trans (if_pos (by omega))), pe_q_n1]; exact x79, pe_rk_e E1.2 (by omega) (by omega)⟩
      · skip
        have s0 : s 0 = 2 := by omega
        refine pe_aload_n d_M_take_50 rfl ?_
        refine pe_iload_n d_M_take_51 rfl ?_
        refine pe_iload_n d_M_take_52 rfl ?_
        refine pe_v2v d_M_take_53 c_M_209 i_M_inSequence s_M_inSequence rfl rfl (x_M_inSequence hB hA1 hw hk hg hkw ⟨s0, R3.symm⟩ (by omega) (by omega) (by first | exact hB _ _ | exact hB0 _ _ | exact hBt _ _ | exact ⟨by omega, by omega⟩)) (fun σ53 hz53 => ?_)
        obtain ⟨hB, f53, o53, x53⟩ := hz53
        try have u53_0 : σ53 29 1 = σ7 29 1 := by first | exact o53 1 (by decide) | exact congrFun (f53 29 (by decide)) 1
        try have u53_1 : σ53 29 2 = σ7 29 2 := by first | exact o53 2 (by decide) | exact congrFun (f53 29 (by decide)) 2
        try have u53_2 : σ53 29 3 = σ7 29 3 := by first | exact o53 3 (by decide) | exact congrFun (f53 29 (by decide)) 3
        try have u53_3 : σ53 29 5 = σ7 29 5 := by first | exact o53 5 (by decide) | exact congrFun (f53 29 (by decide)) 5
        try have u53_4 : σ53 29 6 = σ7 29 6 := by first | exact o53 6 (by decide) | exact congrFun (f53 29 (by decide)) 6
        try have u53_5 : σ53 29 7 = σ7 29 7 := by first | exact o53 7 (by decide) | exact congrFun (f53 29 (by decide)) 7
        try have u53_6 : σ53 29 19 = σ7 29 19 := by first | exact o53 19 (by decide) | exact congrFun (f53 29 (by decide)) 19
        try have u53_7 : σ53 29 21 = σ7 29 21 := by first | exact o53 21 (by decide) | exact congrFun (f53 29 (by decide)) 21
        try have u53_8 : σ53 29 13 = σ7 29 13 := by first | exact o53 13 (by decide) | exact congrFun (f53 29 (by decide)) 13
        try have u53_9 : σ53 29 14 = σ7 29 14 := by first | exact o53 14 (by decide) | exact congrFun (f53 29 (by decide)) 14
        try have u53_10 : σ53 29 15 = σ7 29 15 := by first | exact o53 15 (by decide) | exact congrFun (f53 29 (by decide)) 15
        try have u53_11 : σ53 29 16 = σ7 29 16 := by first | exact o53 16 (by decide) | exact congrFun (f53 29 (by decide)) 16
        try have u53_12 : σ53 29 17 = σ7 29 17 := by first | exact o53 17 (by decide) | exact congrFun (f53 29 (by decide)) 17
        try have u53_13 : σ53 29 18 = σ7 29 18 := by first | exact o53 18 (by decide) | exact congrFun (f53 29 (by decide)) 18
        try have u53_14 : σ53 29 20 = σ7 29 20 := by first | exact o53 20 (by decide) | exact congrFun (f53 29 (by decide)) 20
        skip
        refine pe_goto (t := 99) d_M_take_56 ?_
        refine pe_rv d_M_take_99 ?_
        first
        | exact ⟨hB, (fun b hb => (f53 b (by simp at hb ⊢; try omega)).trans ((f7 b (by simp at hb ⊢; try omega)).trans (rfl))), (fun j hj => (o53 j (by simp at hj ⊢; try omega)).trans ((o7 j (by simp at hj ⊢; try omega)).trans (rfl))), x20⟩
        | exact ⟨hB, (fun b hb => (f53 b (by simp at hb ⊢; try omega)).trans ((f7 b (by simp at hb ⊢; try omega)).trans (rfl))), (fun j hj => (o53 j (by simp at hj ⊢; try omega)).trans ((o7 j (by simp at hj ⊢; try omega)).trans (rfl))), x53⟩
        | exact ⟨hB, (fun b hb => (f53 b (by simp at hb ⊢; try omega)).trans ((f7 b (by simp at hb ⊢; try omega)).trans (rfl))), (fun j hj => (o53 j (by simp at hj ⊢; try omega)).trans ((o7 j (by simp at hj ⊢; try omega)).trans (rfl))), by rw [pe_st_1 Z.1 rfl, pe_q_n1]; exact x36.1, x36.2⟩
        | exact ⟨hB, (fun b hb => (f53 b (by simp at hb ⊢; try omega)).trans ((f7 b (by simp at hb ⊢; try omega)).trans (rfl))), (fun j hj => (o53 j (by simp at hj ⊢; try omega)).trans ((o7 j (by simp at hj ⊢; try omega)).trans (rfl))), by rw [pe_st_1 S1.1 S1.2.1, pe_q_n1, pe_q_n1]; exact hA2, pe_rk_2 S1.2.2.1 ⟨by omega, by omega, by rw [S1.2.2.2]; omega, by show _ = b; omega⟩⟩
        | exact ⟨hB, (fun b hb => (f53 b (by simp at hb ⊢; try omega)).trans ((f7 b (by simp at hb ⊢; try omega)).trans (rfl))), (fun j hj => (o53 j (by simp at hj ⊢; try omega)).trans ((o7 j (by simp at hj ⊢; try omega)).trans (rfl))), by rw [pe_st_1 E1.1 rfl]; exact x96.1, x96.2⟩
        | exact ⟨hB, (fun b hb => (f53 b (by simp at hb ⊢; try omega)).trans ((f7 b (by simp at hb ⊢; try omega)).trans (rfl))), (fun j hj => (o53 j (by simp at hj ⊢; try omega)).trans ((o7 j (by simp at hj ⊢; try omega)).trans (rfl))), by rw [pe_st_1 E1.1 ((pe_kk_p E1.2).trans (if_pos (by omega))), pe_q_n1]; exact x79, pe_rk_e E1.2 (by omega) (by omega)⟩
    · skip
      have s0 : s 0 = 0 := by omega
      have Z := pe_0_x b s0
      refine pe_aload_n d_M_take_33 rfl ?_
      refine pe_iload_n d_M_take_34 rfl ?_
      refine pe_iload_n d_M_take_35 rfl ?_
      refine pe_v2v d_M_take_36 c_M_200 i_M_plain s_M_plain rfl rfl (x_M_plain (s := pe_kx s b) hB hA1 hw (by omega) hg ⟨Z.2, R3.symm⟩ (by omega) (by omega) (by first | exact hB _ _ | exact hB0 _ _ | exact hBt _ _ | exact ⟨by omega, by omega⟩)) (fun σ36 hz36 => ?_)
      obtain ⟨hB, f36, o36, x36⟩ := hz36
      try have u36_0 : σ36 29 1 = σ7 29 1 := by first | exact o36 1 (by decide) | exact congrFun (f36 29 (by decide)) 1
      try have u36_1 : σ36 29 2 = σ7 29 2 := by first | exact o36 2 (by decide) | exact congrFun (f36 29 (by decide)) 2
      try have u36_2 : σ36 29 3 = σ7 29 3 := by first | exact o36 3 (by decide) | exact congrFun (f36 29 (by decide)) 3
      try have u36_3 : σ36 29 5 = σ7 29 5 := by first | exact o36 5 (by decide) | exact congrFun (f36 29 (by decide)) 5
      try have u36_4 : σ36 29 6 = σ7 29 6 := by first | exact o36 6 (by decide) | exact congrFun (f36 29 (by decide)) 6
      try have u36_5 : σ36 29 7 = σ7 29 7 := by first | exact o36 7 (by decide) | exact congrFun (f36 29 (by decide)) 7
      try have u36_6 : σ36 29 19 = σ7 29 19 := by first | exact o36 19 (by decide) | exact congrFun (f36 29 (by decide)) 19
      try have u36_7 : σ36 29 21 = σ7 29 21 := by first | exact o36 21 (by decide) | exact congrFun (f36 29 (by decide)) 21
      try have u36_8 : σ36 29 13 = σ7 29 13 := by first | exact o36 13 (by decide) | exact congrFun (f36 29 (by decide)) 13
      try have u36_9 : σ36 29 14 = σ7 29 14 := by first | exact o36 14 (by decide) | exact congrFun (f36 29 (by decide)) 14
      try have u36_10 : σ36 29 15 = σ7 29 15 := by first | exact o36 15 (by decide) | exact congrFun (f36 29 (by decide)) 15
      try have u36_11 : σ36 29 16 = σ7 29 16 := by first | exact o36 16 (by decide) | exact congrFun (f36 29 (by decide)) 16
      try have u36_12 : σ36 29 17 = σ7 29 17 := by first | exact o36 17 (by decide) | exact congrFun (f36 29 (by decide)) 17
      try have u36_13 : σ36 29 18 = σ7 29 18 := by first | exact o36 18 (by decide) | exact congrFun (f36 29 (by decide)) 18
      try have u36_14 : σ36 29 20 = σ7 29 20 := by first | exact o36 20 (by decide) | exact congrFun (f36 29 (by decide)) 20
      skip
      refine pe_goto (t := 99) d_M_take_39 ?_
      refine pe_rv d_M_take_99 ?_
      first
      | exact ⟨hB, (fun b hb => (f36 b (by simp at hb ⊢; try omega)).trans ((f7 b (by simp at hb ⊢; try omega)).trans (rfl))), (fun j hj => (o36 j (by simp at hj ⊢; try omega)).trans ((o7 j (by simp at hj ⊢; try omega)).trans (rfl))), x20⟩
      | exact ⟨hB, (fun b hb => (f36 b (by simp at hb ⊢; try omega)).trans ((f7 b (by simp at hb ⊢; try omega)).trans (rfl))), (fun j hj => (o36 j (by simp at hj ⊢; try omega)).trans ((o7 j (by simp at hj ⊢; try omega)).trans (rfl))), x53⟩
      | exact ⟨hB, (fun b hb => (f36 b (by simp at hb ⊢; try omega)).trans ((f7 b (by simp at hb ⊢; try omega)).trans (rfl))), (fun j hj => (o36 j (by simp at hj ⊢; try omega)).trans ((o7 j (by simp at hj ⊢; try omega)).trans (rfl))), by rw [pe_st_1 Z.1 rfl, pe_q_n1]; exact x36.1, x36.2⟩
      | exact ⟨hB, (fun b hb => (f36 b (by simp at hb ⊢; try omega)).trans ((f7 b (by simp at hb ⊢; try omega)).trans (rfl))), (fun j hj => (o36 j (by simp at hj ⊢; try omega)).trans ((o7 j (by simp at hj ⊢; try omega)).trans (rfl))), by rw [pe_st_1 S1.1 S1.2.1, pe_q_n1, pe_q_n1]; exact hA2, pe_rk_2 S1.2.2.1 ⟨by omega, by omega, by rw [S1.2.2.2]; omega, by show _ = b; omega⟩⟩
      | exact ⟨hB, (fun b hb => (f36 b (by simp at hb ⊢; try omega)).trans ((f7 b (by simp at hb ⊢; try omega)).trans (rfl))), (fun j hj => (o36 j (by simp at hj ⊢; try omega)).trans ((o7 j (by simp at hj ⊢; try omega)).trans (rfl))), by rw [pe_st_1 E1.1 rfl]; exact x96.1, x96.2⟩
      | exact ⟨hB, (fun b hb => (f36 b (by simp at hb ⊢; try omega)).trans ((f7 b (by simp at hb ⊢; try omega)).trans (rfl))), (fun j hj => (o36 j (by simp at hj ⊢; try omega)).trans ((o7 j (by simp at hj ⊢; try omega)).trans (rfl))), by rw [pe_st_1 E1.1 ((pe_kk_p E1.2).trans (if_pos (by omega))), pe_q_n1]; exact x79, pe_rk_e E1.2 (by omega) (by omega)⟩
  · skip
    have s0 : s 0 = 3 := by omega
    refine pe_aload_n d_M_take_17 rfl ?_
    refine pe_iload_n d_M_take_18 rfl ?_
    refine pe_iload_n d_M_take_19 rfl ?_
    refine pe_v2v d_M_take_20 c_M_206 i_M_within s_M_within rfl rfl (x_M_within hB hA1 hw hk hg hkw ⟨s0, R3.symm⟩ (by omega) (by omega) (by first | exact hB _ _ | exact hB0 _ _ | exact hBt _ _ | exact ⟨by omega, by omega⟩)) (fun σ20 hz20 => ?_)
    obtain ⟨hB, f20, o20, x20⟩ := hz20
    try have u20_0 : σ20 29 1 = σ7 29 1 := by first | exact o20 1 (by decide) | exact congrFun (f20 29 (by decide)) 1
    try have u20_1 : σ20 29 2 = σ7 29 2 := by first | exact o20 2 (by decide) | exact congrFun (f20 29 (by decide)) 2
    try have u20_2 : σ20 29 3 = σ7 29 3 := by first | exact o20 3 (by decide) | exact congrFun (f20 29 (by decide)) 3
    try have u20_3 : σ20 29 5 = σ7 29 5 := by first | exact o20 5 (by decide) | exact congrFun (f20 29 (by decide)) 5
    try have u20_4 : σ20 29 6 = σ7 29 6 := by first | exact o20 6 (by decide) | exact congrFun (f20 29 (by decide)) 6
    try have u20_5 : σ20 29 7 = σ7 29 7 := by first | exact o20 7 (by decide) | exact congrFun (f20 29 (by decide)) 7
    try have u20_6 : σ20 29 19 = σ7 29 19 := by first | exact o20 19 (by decide) | exact congrFun (f20 29 (by decide)) 19
    try have u20_7 : σ20 29 21 = σ7 29 21 := by first | exact o20 21 (by decide) | exact congrFun (f20 29 (by decide)) 21
    try have u20_8 : σ20 29 13 = σ7 29 13 := by first | exact o20 13 (by decide) | exact congrFun (f20 29 (by decide)) 13
    try have u20_9 : σ20 29 14 = σ7 29 14 := by first | exact o20 14 (by decide) | exact congrFun (f20 29 (by decide)) 14
    try have u20_10 : σ20 29 15 = σ7 29 15 := by first | exact o20 15 (by decide) | exact congrFun (f20 29 (by decide)) 15
    try have u20_11 : σ20 29 16 = σ7 29 16 := by first | exact o20 16 (by decide) | exact congrFun (f20 29 (by decide)) 16
    try have u20_12 : σ20 29 17 = σ7 29 17 := by first | exact o20 17 (by decide) | exact congrFun (f20 29 (by decide)) 17
    try have u20_13 : σ20 29 18 = σ7 29 18 := by first | exact o20 18 (by decide) | exact congrFun (f20 29 (by decide)) 18
    try have u20_14 : σ20 29 20 = σ7 29 20 := by first | exact o20 20 (by decide) | exact congrFun (f20 29 (by decide)) 20
    skip
    refine pe_goto (t := 99) d_M_take_23 ?_
    refine pe_rv d_M_take_99 ?_
    first
    | exact ⟨hB, (fun b hb => (f20 b (by simp at hb ⊢; try omega)).trans ((f7 b (by simp at hb ⊢; try omega)).trans (rfl))), (fun j hj => (o20 j (by simp at hj ⊢; try omega)).trans ((o7 j (by simp at hj ⊢; try omega)).trans (rfl))), x20⟩
    | exact ⟨hB, (fun b hb => (f20 b (by simp at hb ⊢; try omega)).trans ((f7 b (by simp at hb ⊢; try omega)).trans (rfl))), (fun j hj => (o20 j (by simp at hj ⊢; try omega)).trans ((o7 j (by simp at hj ⊢; try omega)).trans (rfl))), x53⟩
    | exact ⟨hB, (fun b hb => (f20 b (by simp at hb ⊢; try omega)).trans ((f7 b (by simp at hb ⊢; try omega)).trans (rfl))), (fun j hj => (o20 j (by simp at hj ⊢; try omega)).trans ((o7 j (by simp at hj ⊢; try omega)).trans (rfl))), by rw [pe_st_1 Z.1 rfl, pe_q_n1]; exact x36.1, x36.2⟩
    | exact ⟨hB, (fun b hb => (f20 b (by simp at hb ⊢; try omega)).trans ((f7 b (by simp at hb ⊢; try omega)).trans (rfl))), (fun j hj => (o20 j (by simp at hj ⊢; try omega)).trans ((o7 j (by simp at hj ⊢; try omega)).trans (rfl))), by rw [pe_st_1 S1.1 S1.2.1, pe_q_n1, pe_q_n1]; exact hA2, pe_rk_2 S1.2.2.1 ⟨by omega, by omega, by rw [S1.2.2.2]; omega, by show _ = b; omega⟩⟩
    | exact ⟨hB, (fun b hb => (f20 b (by simp at hb ⊢; try omega)).trans ((f7 b (by simp at hb ⊢; try omega)).trans (rfl))), (fun j hj => (o20 j (by simp at hj ⊢; try omega)).trans ((o7 j (by simp at hj ⊢; try omega)).trans (rfl))), by rw [pe_st_1 E1.1 rfl]; exact x96.1, x96.2⟩
    | exact ⟨hB, (fun b hb => (f20 b (by simp at hb ⊢; try omega)).trans ((f7 b (by simp at hb ⊢; try omega)).trans (rfl))), (fun j hj => (o20 j (by simp at hj ⊢; try omega)).trans ((o7 j (by simp at hj ⊢; try omega)).trans (rfl))), by rw [pe_st_1 E1.1 ((pe_kk_p E1.2).trans (if_pos (by omega))), pe_q_n1]; exact x79, pe_rk_e E1.2 (by omega) (by omega)⟩
theorem x_M_type {σ : pe_H} {w : Int64} {n : Int} {y0 : pe_H × (Int → Int)} (hB : pe_B σ) (hA : pe_ra y0.1 σ) (hK : pe_rk y0.2 σ) (hiv : pe_iv y0 0) (hn : pe_R n) : pe_M m_M_type [pe_r 29, pe_l w, pe_i n] σ (pe_qi (fun z σ' => pe_B σ' ∧ (∀ b, b ∉ [29, 30, 32, 33, 34, 35, 36, 31, 37, 38, 39] → σ' b = σ b) ∧ (∀ j, j ∉ ([1, 2, 3, 5, 6, 7, 13, 14, 15, 16, 17, 18, 19, 20, 26, 41] : List Int) → σ' 29 j = σ 29 j) ∧ z = (if 1 ≤ n ∧ n ≤ 8 then (pe_run pe_ePq (pe_by w) y0 n.toNat).1 0 0 else -1))) := by
  refine pe_in0 (lv := [some (pe_r 29), some (pe_l w), none, some (pe_i n), none]) ?_
  have hB0 := hB
  have J16 : ∀ x : Int × pe_H, (pe_B x.2 ∧ (∀ b, b ∉ [29, 30, 32, 33, 34, 35, 36, 31, 37, 38, 39] → x.2 b = σ b) ∧ (∀ j, j ∉ ([1, 2, 3, 5, 6, 7, 13, 14, 15, 16, 17, 18, 19, 20, 26, 41] : List Int) → x.2 29 j = σ 29 j) ∧ (0 ≤ x.1 ∧ x.1 ≤ n ∧ 1 ≤ n ∧ n ≤ 8) ∧ pe_ra (pe_run pe_ePq (pe_by w) y0 x.1.toNat).1 x.2 ∧ pe_rk (pe_run pe_ePq (pe_by w) y0 x.1.toNat).2 x.2) → pe_G m_M_type 16 [some (pe_r 29), some (pe_l w), none, some (pe_i n), some (pe_i x.1)] [] x.2 (pe_qi (fun z σ' => pe_B σ' ∧ (∀ b, b ∉ [29, 30, 32, 33, 34, 35, 36, 31, 37, 38, 39] → σ' b = σ b) ∧ (∀ j, j ∉ ([1, 2, 3, 5, 6, 7, 13, 14, 15, 16, 17, 18, 19, 20, 26, 41] : List Int) → σ' 29 j = σ 29 j) ∧ z = (if 1 ≤ n ∧ n ≤ 8 then (pe_run pe_ePq (pe_by w) y0 n.toNat).1 0 0 else -1))) := by
    refine pe_loop (fun x : Int × pe_H => (100 - x.1).toNat) _ _ ?_
    intro x hI ih
    obtain ⟨i, τ⟩ := x
    dsimp only at hI ⊢
    obtain ⟨hB, hfr, hX⟩ := hI
    obtain ⟨hor, hi, hA, hK⟩ := hX
    have hIV := pe_iv_r (w := w) pe_gd_q hiv i.toNat
    rw [show ((i.toNat : Nat) : Int) = i by omega] at hIV
    have hst := pe_run_s (f := pe_ePq) (u := pe_by w) (x := y0) hi.1
    generalize hX : pe_run pe_ePq (pe_by w) y0 i.toNat = X at hA hK hIV hst
    have hBt := hB
    refine pe_iload d_M_type_16 rfl ?_
    refine pe_iload_n d_M_type_18 rfl ?_
    refine pe_icmp_ge (t := 44) d_M_type_19 (by first | exact hB _ _ | exact hB0 _ _ | exact hBt _ _ | exact ⟨by omega, by omega⟩) (by first | exact hB _ _ | exact hB0 _ _ | exact hBt _ _ | exact ⟨by omega, by omega⟩) (fun h19 => ?_) (fun h19 => ?_)
    · skip
      refine pe_aload_n d_M_type_44 rfl ?_
      refine pe_geti f_M_87 d_M_type_45 rfl rfl 1 rfl ?_
      refine pe_ri d_M_type_48 ?_
      exact ⟨hB, (fun b hb => hfr b (by simp at hb ⊢; try omega)), (fun j hj => hor j (by simp at hj ⊢; try omega)), by (try dsimp only); rw [if_pos (by omega), show n.toNat = i.toNat by omega, hX]; exact hA.1.1.1⟩
    · skip
      refine pe_aload_n d_M_type_22 rfl ?_
      refine pe_lload_n d_M_type_23 rfl ?_
      refine pe_bipush d_M_type_24 ?_
      refine pe_iload d_M_type_26 rfl ?_
      refine pe_imul d_M_type_28 ?_
      refine pe_lshr d_M_type_29 rfl ?_
      refine pe_ldc2 q_M_215 d_M_type_30 ?_
      refine pe_land d_M_type_33 ?_
      refine pe_l2i d_M_type_34 (Int32.ofInt_int64ToInt _).symm ?_
      rw [pe_by_m1 w (by omega)]
      have hby := pe_by_b w i.toNat
      generalize hb : pe_by w i.toNat = t at hby hst ⊢
      refine pe_v1v d_M_type_35 c_M_217 i_M_take s_M_take rfl rfl (x_M_take (m := X.1) (s := X.2) hB hA hIV.1.1 (by have := hIV.2.2; omega) hIV.1.2 hIV.2.1 hK (by omega)) (fun σ35 hz35 => ?_)
      obtain ⟨hB, f35, o35, x35⟩ := hz35
      skip
      refine pe_iinc d_M_type_38 rfl ?_
      refine pe_goto (t := 16) d_M_type_41 ?_
      exact ih (_, _) ⟨hB, (fun b hb => (f35 b (by simp at hb ⊢; try omega)).trans (hfr b (by simp at hb ⊢; try omega))), (fun j hj => (o35 j (by simp at hj ⊢; try omega)).trans (hor j (by simp at hj ⊢; try omega))), by (try dsimp only); omega, by (try dsimp only); rw [hst]; exact x35.1, by (try dsimp only); rw [hst]; exact x35.2⟩ (by (try dsimp only); omega)
  refine pe_iload_n d_M_type_0 rfl ?_
  refine pe_iconst d_M_type_1 ?_
  refine pe_icmp_lt (t := 11) d_M_type_2 (by first | exact hB _ _ | exact hB0 _ _ | exact hBt _ _ | exact ⟨by omega, by omega⟩) (by first | exact hB _ _ | exact hB0 _ _ | exact hBt _ _ | exact ⟨by omega, by omega⟩) (fun h2 => ?_) (fun h2 => ?_)
  · skip
    refine pe_iconst d_M_type_11 ?_
    refine pe_ri d_M_type_12 ?_
    exact ⟨hB, (fun b hb => rfl), (fun j hj => rfl), by (try dsimp only); rw [if_neg (by omega)]⟩
  · skip
    refine pe_iload_n d_M_type_5 rfl ?_
    refine pe_bipush d_M_type_6 ?_
    refine pe_icmp_le (t := 13) d_M_type_8 (by first | exact hB _ _ | exact hB0 _ _ | exact hBt _ _ | exact ⟨by omega, by omega⟩) (by first | exact hB _ _ | exact hB0 _ _ | exact hBt _ _ | exact ⟨by omega, by omega⟩) (fun h8 => ?_) (fun h8 => ?_)
    · skip
      refine pe_iconst d_M_type_13 ?_
      refine pe_istore d_M_type_14 ?_
      exact J16 (_, _) ⟨hB, (fun b hb => rfl), (fun j hj => rfl), by (try dsimp only); omega, hA, hK⟩
    · skip
      refine pe_iconst d_M_type_11 ?_
      refine pe_ri d_M_type_12 ?_
      exact ⟨hB, (fun b hb => rfl), (fun j hj => rfl), by (try dsimp only); rw [if_neg (by omega)]⟩
