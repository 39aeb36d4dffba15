/-! p1: the first drawing of the reference, its rows -/
set_option maxHeartbeats 2000000 in
theorem y_M_sendCluster {σ : pe_H} {r c : Int} (hB : pe_B σ) (hq : 0 ≤ σ 29 43 ∧ σ 29 43 ≤ 5700) (hW : 1 ≤ σ 29 21 ∧ σ 29 21 ≤ 24 ∧ 1 ≤ σ 29 22 ∧ σ 29 22 ≤ 8) (hr : 0 ≤ r ∧ r < σ 29 22) (hc : 0 ≤ c ∧ c < σ 29 21) (hz : ∀ j, 0 ≤ j → j < σ 29 21 → 32 ≤ σ 42 (σ 29 21 * r + j) ∧ σ 42 (σ 29 21 * r + j) ≤ 126) (hu : (32 ≤ σ 40 (σ 29 21 * r + c) ∧ σ 40 (σ 29 21 * r + c) ≤ 126) ∧ σ 41 (σ 29 21 * r + c) = 1) (ha : (σ 29 36 = r ∧ σ 29 37 = c ∧ σ 29 38 = 0 ∧ σ 29 39 = 1) ∨ (σ 29 36 ≠ r ∧ c = 0 ∧ 0 ≤ σ 29 36 ∧ σ 29 36 ≤ 7 ∧ σ 29 39 = 0)) : pe_M m_M_sendCluster [pe_r 29, pe_i r, pe_i c] σ (pe_qv (fun σ' => pe_B σ' ∧ (∀ b, b ∉ [29, 42, 43, 46] → σ' b = σ b) ∧ (∀ j, j ∉ ([36, 37, 38, 39, 40, 43] : List Int) → σ' 29 j = σ 29 j) ∧ (σ' 29 36 = r ∧ σ' 29 39 = 1 ∧ (c + 1 < σ 29 21 → σ' 29 37 = c + 1 ∧ σ' 29 38 = 0)) ∧ (∀ j, 0 ≤ j → j < σ 29 21 → 32 ≤ σ' 42 (σ 29 21 * r + j) ∧ σ' 42 (σ 29 21 * r + j) ≤ 126) ∧ ((σ 29 36 = r ∧ σ' 29 43 = σ 29 43 + 1) ∨ (σ 29 36 ≠ r ∧ r = σ 29 36 + 1 ∧ σ' 29 43 = σ 29 43 + 9) ∨ (σ 29 36 ≠ r ∧ r ≠ σ 29 36 + 1 ∧ σ' 29 43 = σ 29 43 + 13)))) := by
  refine pe_in0 (lv := [some (pe_r 29), some (pe_i r), some (pe_i c), none, none, none, none, none]) ?_
  have hB0 := hB
  have hix := pe_ix (r := r) (c := c) (H := σ 29 22) (W := σ 29 21) (by omega) (by omega) (by omega) (by omega)
  have a1 := pe_a127 (a := σ 40 (σ 29 21 * r + c)) ⟨by omega, by omega⟩
  refine pe_aload_n d_M_sendCluster_0 rfl ?_
  refine pe_geti f_M_78 d_M_sendCluster_1 rfl rfl 21 rfl ?_
  refine pe_iload_n d_M_sendCluster_4 rfl ?_
  refine pe_imul d_M_sendCluster_5 ?_
  refine pe_iload_n d_M_sendCluster_6 rfl ?_
  refine pe_iadd d_M_sendCluster_7 ?_
  refine pe_istore_n d_M_sendCluster_8 ?_
  refine pe_aload_n d_M_sendCluster_9 rfl ?_
  refine pe_getr f_M_50 d_M_sendCluster_10 rfl rfl ?_
  refine pe_iload_n d_M_sendCluster_13 rfl ?_
  refine pe_iald d_M_sendCluster_14 rfl (by omega) (by omega) ?_
  refine pe_istore d_M_sendCluster_15 ?_
  refine pe_iload d_M_sendCluster_17 rfl ?_
  refine pe_ldcw q_M_256 d_M_sendCluster_19 (z := 65535) rfl ?_
  refine pe_iand d_M_sendCluster_22 a1.1 ?_
  refine pe_istore d_M_sendCluster_23 ?_
  refine pe_iload d_M_sendCluster_25 rfl ?_
  refine pe_bipush d_M_sendCluster_27 ?_
  refine pe_ishr d_M_sendCluster_29 a1.2.1 ?_
  refine pe_bipush d_M_sendCluster_30 ?_
  refine pe_iand d_M_sendCluster_32 (z := 0) (by decide) ?_
  refine pe_istore d_M_sendCluster_33 ?_
  refine pe_iload d_M_sendCluster_35 rfl ?_
  refine pe_bipush d_M_sendCluster_37 ?_
  refine pe_ishr d_M_sendCluster_39 a1.2.2 ?_
  refine pe_istore d_M_sendCluster_40 ?_
  refine pe_aload_n d_M_sendCluster_42 rfl ?_
  refine pe_iload_n d_M_sendCluster_43 rfl ?_
  refine pe_iload_n d_M_sendCluster_44 rfl ?_
  refine pe_iload d_M_sendCluster_45 rfl ?_
  refine pe_s1p d_M_sendCluster_47 c_M_90 z_M_isMark (t_M_isMark (by first | exact hB _ _ | exact hB0 _ _ | exact hBt _ _ | exact ⟨by omega, by omega⟩)) (fun z47 hz47 => ?_)
  skip
  refine pe_v3v d_M_sendCluster_50 c_M_284 i_M_go s_M_go rfl rfl (y_M_go hB (by omega) (by omega) (by omega) (by omega) (by omega)) (fun σ50 hz50 => ?_)
  obtain ⟨hB, f50, o50, x50⟩ := hz50
  try have u50_0 : σ50 29 1 = σ 29 1 := by first | exact o50 1 (by decide) | exact congrFun (f50 29 (by decide)) 1
  try have u50_1 : σ50 29 2 = σ 29 2 := by first | exact o50 2 (by decide) | exact congrFun (f50 29 (by decide)) 2
  try have u50_2 : σ50 29 3 = σ 29 3 := by first | exact o50 3 (by decide) | exact congrFun (f50 29 (by decide)) 3
  try have u50_3 : σ50 29 7 = σ 29 7 := by first | exact o50 7 (by decide) | exact congrFun (f50 29 (by decide)) 7
  try have u50_4 : σ50 29 21 = σ 29 21 := by first | exact o50 21 (by decide) | exact congrFun (f50 29 (by decide)) 21
  try have u50_5 : σ50 29 22 = σ 29 22 := by first | exact o50 22 (by decide) | exact congrFun (f50 29 (by decide)) 22
  try have u50_6 : σ50 29 27 = σ 29 27 := by first | exact o50 27 (by decide) | exact congrFun (f50 29 (by decide)) 27
  try have u50_7 : σ50 29 30 = σ 29 30 := by first | exact o50 30 (by decide) | exact congrFun (f50 29 (by decide)) 30
  try have u50_8 : σ50 29 31 = σ 29 31 := by first | exact o50 31 (by decide) | exact congrFun (f50 29 (by decide)) 31
  try have u50_9 : σ50 29 36 = σ 29 36 := by first | exact o50 36 (by decide) | exact congrFun (f50 29 (by decide)) 36
  try have u50_10 : σ50 29 37 = σ 29 37 := by first | exact o50 37 (by decide) | exact congrFun (f50 29 (by decide)) 37
  try have u50_11 : σ50 29 38 = σ 29 38 := by first | exact o50 38 (by decide) | exact congrFun (f50 29 (by decide)) 38
  try have u50_12 : σ50 29 39 = σ 29 39 := by first | exact o50 39 (by decide) | exact congrFun (f50 29 (by decide)) 39
  try have u50_13 : σ50 29 40 = σ 29 40 := by first | exact o50 40 (by decide) | exact congrFun (f50 29 (by decide)) 40
  try have u50_14 : σ50 29 41 = σ 29 41 := by first | exact o50 41 (by decide) | exact congrFun (f50 29 (by decide)) 41
  try have u50_15 : σ50 29 43 = σ 29 43 := by first | exact o50 43 (by decide) | exact congrFun (f50 29 (by decide)) 43
  obtain ⟨x50, d50, y50⟩ := x50
  have g41 := f50 41 (by decide)
  refine pe_aload_n d_M_sendCluster_53 rfl ?_
  refine pe_geti f_M_272 d_M_sendCluster_54 rfl rfl 39 rfl ?_
  refine pe_aload_n d_M_sendCluster_57 rfl ?_
  refine pe_getr f_M_53 d_M_sendCluster_58 rfl rfl ?_
  refine pe_iload_n d_M_sendCluster_61 rfl ?_
  refine pe_iald d_M_sendCluster_62 rfl (by omega) (by omega) ?_
  have l63 : σ50 41 (σ 29 21 * r + c) = 1 := by rw [g41]; exact hu.2
  refine pe_icmp_eq (t := 76) d_M_sendCluster_63 (by first | exact hB _ _ | exact hB0 _ _ | exact hBt _ _ | exact ⟨by omega, by omega⟩) (by first | exact hB _ _ | exact hB0 _ _ | exact hBt _ _ | exact ⟨by omega, by omega⟩) (fun h63 => ?_) (fun h63 => ?_)
  · skip
    have e21 : σ50 29 21 = σ 29 21 := by omega
    have e36 : σ50 29 36 = r := by omega
    have e42 : σ50 42 = σ 42 := ((f50 42 (by decide)).trans (rfl))
    have hzz : ∀ j, 0 ≤ j → j < σ50 29 21 → 32 ≤ σ50 42 (σ50 29 21 * σ50 29 36 + j) ∧ σ50 42 (σ50 29 21 * σ50 29 36 + j) ≤ 126 := by rw [e36, e21, e42]; exact hz
    refine pe_aload_n d_M_sendCluster_76 rfl ?_
    refine pe_iload d_M_sendCluster_77 rfl ?_
    refine pe_v1v d_M_sendCluster_79 c_M_291 i_M_write s_M_write rfl rfl (y_M_write hB (by omega) (by omega) (by omega) hzz (by omega)) (fun σ79 hz79 => ?_)
    obtain ⟨hB, f79, o79, x79⟩ := hz79
    try have u79_0 : σ79 29 1 = σ50 29 1 := by first | exact o79 1 (by decide) | exact congrFun (f79 29 (by decide)) 1
    try have u79_1 : σ79 29 2 = σ50 29 2 := by first | exact o79 2 (by decide) | exact congrFun (f79 29 (by decide)) 2
    try have u79_2 : σ79 29 3 = σ50 29 3 := by first | exact o79 3 (by decide) | exact congrFun (f79 29 (by decide)) 3
    try have u79_3 : σ79 29 7 = σ50 29 7 := by first | exact o79 7 (by decide) | exact congrFun (f79 29 (by decide)) 7
    try have u79_4 : σ79 29 21 = σ50 29 21 := by first | exact o79 21 (by decide) | exact congrFun (f79 29 (by decide)) 21
    try have u79_5 : σ79 29 22 = σ50 29 22 := by first | exact o79 22 (by decide) | exact congrFun (f79 29 (by decide)) 22
    try have u79_6 : σ79 29 27 = σ50 29 27 := by first | exact o79 27 (by decide) | exact congrFun (f79 29 (by decide)) 27
    try have u79_7 : σ79 29 30 = σ50 29 30 := by first | exact o79 30 (by decide) | exact congrFun (f79 29 (by decide)) 30
    try have u79_8 : σ79 29 31 = σ50 29 31 := by first | exact o79 31 (by decide) | exact congrFun (f79 29 (by decide)) 31
    try have u79_9 : σ79 29 36 = σ50 29 36 := by first | exact o79 36 (by decide) | exact congrFun (f79 29 (by decide)) 36
    try have u79_10 : σ79 29 37 = σ50 29 37 := by first | exact o79 37 (by decide) | exact congrFun (f79 29 (by decide)) 37
    try have u79_11 : σ79 29 38 = σ50 29 38 := by first | exact o79 38 (by decide) | exact congrFun (f79 29 (by decide)) 38
    try have u79_12 : σ79 29 39 = σ50 29 39 := by first | exact o79 39 (by decide) | exact congrFun (f79 29 (by decide)) 39
    try have u79_13 : σ79 29 40 = σ50 29 40 := by first | exact o79 40 (by decide) | exact congrFun (f79 29 (by decide)) 40
    try have u79_14 : σ79 29 41 = σ50 29 41 := by first | exact o79 41 (by decide) | exact congrFun (f79 29 (by decide)) 41
    try have u79_15 : σ79 29 43 = σ50 29 43 := by first | exact o79 43 (by decide) | exact congrFun (f79 29 (by decide)) 43
    refine pe_iload d_M_sendCluster_82 rfl ?_
    refine pe_if_le (t := 97) d_M_sendCluster_84 (by first | exact hB _ _ | exact hB0 _ _ | exact hBt _ _ | exact ⟨by omega, by omega⟩) (fun h84 => ?_) (fun h84 => ?_)
    · skip
      refine pe_iload d_M_sendCluster_97 rfl ?_
      refine pe_if_le (t := 112) d_M_sendCluster_99 (by first | exact hB _ _ | exact hB0 _ _ | exact hBt _ _ | exact ⟨by omega, by omega⟩) (fun h99 => ?_) (fun h99 => ?_)
      · skip
        refine pe_rv d_M_sendCluster_112 ?_
        exact ⟨hB, (fun b hb => (f79 b (by simp at hb ⊢; try omega)).trans ((f50 b (by simp at hb ⊢; try omega)).trans (rfl))), (fun j hj => (o79 j (by simp at hj ⊢; try omega)).trans ((o50 j (by simp at hj ⊢; try omega)).trans (rfl))), by (try dsimp only); rw [e21] at x79; omega, by have q := x79.2; rw [e36, e21] at q; exact q, by (try dsimp only); rw [e21] at x79; omega⟩
      · skip
        exfalso; omega
    · skip
      exfalso; omega
  · skip
    refine pe_aload_n d_M_sendCluster_66 rfl ?_
    refine pe_aload_n d_M_sendCluster_67 rfl ?_
    refine pe_getr f_M_53 d_M_sendCluster_68 rfl rfl ?_
    refine pe_iload_n d_M_sendCluster_71 rfl ?_
    refine pe_iald d_M_sendCluster_72 rfl (by omega) (by omega) ?_
    refine pe_v1v d_M_sendCluster_73 c_M_288 i_M_setLook s_M_setLook rfl rfl (y_M_setLook hB (by omega) (by rw [g41]; omega)) (fun σ73 hz73 => ?_)
    obtain ⟨hB, f73, o73, x73⟩ := hz73
    try have u73_0 : σ73 29 1 = σ50 29 1 := by first | exact o73 1 (by decide) | exact congrFun (f73 29 (by decide)) 1
    try have u73_1 : σ73 29 2 = σ50 29 2 := by first | exact o73 2 (by decide) | exact congrFun (f73 29 (by decide)) 2
    try have u73_2 : σ73 29 3 = σ50 29 3 := by first | exact o73 3 (by decide) | exact congrFun (f73 29 (by decide)) 3
    try have u73_3 : σ73 29 7 = σ50 29 7 := by first | exact o73 7 (by decide) | exact congrFun (f73 29 (by decide)) 7
    try have u73_4 : σ73 29 21 = σ50 29 21 := by first | exact o73 21 (by decide) | exact congrFun (f73 29 (by decide)) 21
    try have u73_5 : σ73 29 22 = σ50 29 22 := by first | exact o73 22 (by decide) | exact congrFun (f73 29 (by decide)) 22
    try have u73_6 : σ73 29 27 = σ50 29 27 := by first | exact o73 27 (by decide) | exact congrFun (f73 29 (by decide)) 27
    try have u73_7 : σ73 29 30 = σ50 29 30 := by first | exact o73 30 (by decide) | exact congrFun (f73 29 (by decide)) 30
    try have u73_8 : σ73 29 31 = σ50 29 31 := by first | exact o73 31 (by decide) | exact congrFun (f73 29 (by decide)) 31
    try have u73_9 : σ73 29 36 = σ50 29 36 := by first | exact o73 36 (by decide) | exact congrFun (f73 29 (by decide)) 36
    try have u73_10 : σ73 29 37 = σ50 29 37 := by first | exact o73 37 (by decide) | exact congrFun (f73 29 (by decide)) 37
    try have u73_11 : σ73 29 38 = σ50 29 38 := by first | exact o73 38 (by decide) | exact congrFun (f73 29 (by decide)) 38
    try have u73_12 : σ73 29 39 = σ50 29 39 := by first | exact o73 39 (by decide) | exact congrFun (f73 29 (by decide)) 39
    try have u73_13 : σ73 29 40 = σ50 29 40 := by first | exact o73 40 (by decide) | exact congrFun (f73 29 (by decide)) 40
    try have u73_14 : σ73 29 41 = σ50 29 41 := by first | exact o73 41 (by decide) | exact congrFun (f73 29 (by decide)) 41
    try have u73_15 : σ73 29 43 = σ50 29 43 := by first | exact o73 43 (by decide) | exact congrFun (f73 29 (by decide)) 43
    have e21 : σ73 29 21 = σ 29 21 := by omega
    have e36 : σ73 29 36 = r := by omega
    have e42 : σ73 42 = σ 42 := ((f73 42 (by decide)).trans ((f50 42 (by decide)).trans (rfl)))
    have hzz : ∀ j, 0 ≤ j → j < σ73 29 21 → 32 ≤ σ73 42 (σ73 29 21 * σ73 29 36 + j) ∧ σ73 42 (σ73 29 21 * σ73 29 36 + j) ≤ 126 := by rw [e36, e21, e42]; exact hz
    refine pe_aload_n d_M_sendCluster_76 rfl ?_
    refine pe_iload d_M_sendCluster_77 rfl ?_
    refine pe_v1v d_M_sendCluster_79 c_M_291 i_M_write s_M_write rfl rfl (y_M_write hB (by omega) (by omega) (by omega) hzz (by omega)) (fun σ79 hz79 => ?_)
    obtain ⟨hB, f79, o79, x79⟩ := hz79
    try have u79_0 : σ79 29 1 = σ73 29 1 := by first | exact o79 1 (by decide) | exact congrFun (f79 29 (by decide)) 1
    try have u79_1 : σ79 29 2 = σ73 29 2 := by first | exact o79 2 (by decide) | exact congrFun (f79 29 (by decide)) 2
    try have u79_2 : σ79 29 3 = σ73 29 3 := by first | exact o79 3 (by decide) | exact congrFun (f79 29 (by decide)) 3
    try have u79_3 : σ79 29 7 = σ73 29 7 := by first | exact o79 7 (by decide) | exact congrFun (f79 29 (by decide)) 7
    try have u79_4 : σ79 29 21 = σ73 29 21 := by first | exact o79 21 (by decide) | exact congrFun (f79 29 (by decide)) 21
    try have u79_5 : σ79 29 22 = σ73 29 22 := by first | exact o79 22 (by decide) | exact congrFun (f79 29 (by decide)) 22
    try have u79_6 : σ79 29 27 = σ73 29 27 := by first | exact o79 27 (by decide) | exact congrFun (f79 29 (by decide)) 27
    try have u79_7 : σ79 29 30 = σ73 29 30 := by first | exact o79 30 (by decide) | exact congrFun (f79 29 (by decide)) 30
    try have u79_8 : σ79 29 31 = σ73 29 31 := by first | exact o79 31 (by decide) | exact congrFun (f79 29 (by decide)) 31
    try have u79_9 : σ79 29 36 = σ73 29 36 := by first | exact o79 36 (by decide) | exact congrFun (f79 29 (by decide)) 36
    try have u79_10 : σ79 29 37 = σ73 29 37 := by first | exact o79 37 (by decide) | exact congrFun (f79 29 (by decide)) 37
    try have u79_11 : σ79 29 38 = σ73 29 38 := by first | exact o79 38 (by decide) | exact congrFun (f79 29 (by decide)) 38
    try have u79_12 : σ79 29 39 = σ73 29 39 := by first | exact o79 39 (by decide) | exact congrFun (f79 29 (by decide)) 39
    try have u79_13 : σ79 29 40 = σ73 29 40 := by first | exact o79 40 (by decide) | exact congrFun (f79 29 (by decide)) 40
    try have u79_14 : σ79 29 41 = σ73 29 41 := by first | exact o79 41 (by decide) | exact congrFun (f79 29 (by decide)) 41
    try have u79_15 : σ79 29 43 = σ73 29 43 := by first | exact o79 43 (by decide) | exact congrFun (f79 29 (by decide)) 43
    refine pe_iload d_M_sendCluster_82 rfl ?_
    refine pe_if_le (t := 97) d_M_sendCluster_84 (by first | exact hB _ _ | exact hB0 _ _ | exact hBt _ _ | exact ⟨by omega, by omega⟩) (fun h84 => ?_) (fun h84 => ?_)
    · skip
      refine pe_iload d_M_sendCluster_97 rfl ?_
      refine pe_if_le (t := 112) d_M_sendCluster_99 (by first | exact hB _ _ | exact hB0 _ _ | exact hBt _ _ | exact ⟨by omega, by omega⟩) (fun h99 => ?_) (fun h99 => ?_)
      · skip
        refine pe_rv d_M_sendCluster_112 ?_
        exact ⟨hB, (fun b hb => (f79 b (by simp at hb ⊢; try omega)).trans ((f73 b (by simp at hb ⊢; try omega)).trans ((f50 b (by simp at hb ⊢; try omega)).trans (rfl)))), (fun j hj => (o79 j (by simp at hj ⊢; try omega)).trans ((o73 j (by simp at hj ⊢; try omega)).trans ((o50 j (by simp at hj ⊢; try omega)).trans (rfl)))), by (try dsimp only); rw [e21] at x79; omega, by have q := x79.2; rw [e36, e21] at q; exact q, by (try dsimp only); rw [e21] at x79; omega⟩
      · skip
        exfalso; omega
    · skip
      exfalso; omega
theorem y_M_sendClusters {σ : pe_H} {r a b : Int} (hB : pe_B σ) (hq : 0 ≤ σ 29 43 ∧ σ 29 43 ≤ 1000) (hW : 1 ≤ σ 29 21 ∧ σ 29 21 ≤ 24 ∧ 1 ≤ σ 29 22 ∧ σ 29 22 ≤ 8) (hr : 1 ≤ r ∧ r < σ 29 22) (ha : a = 0) (hb : b = σ 29 21 - 1) (hz : ∀ j, 0 ≤ j → j < σ 29 21 → 32 ≤ σ 42 (σ 29 21 * r + j) ∧ σ 42 (σ 29 21 * r + j) ≤ 126) (hu : ∀ c, 0 ≤ c → c < σ 29 21 → (32 ≤ σ 40 (σ 29 21 * r + c) ∧ σ 40 (σ 29 21 * r + c) ≤ 126) ∧ σ 41 (σ 29 21 * r + c) = 1) (hp : σ 29 36 = 0 ∧ σ 29 37 = 0 ∧ σ 29 38 = 0 ∧ σ 29 39 = 0) : pe_M m_M_sendClusters [pe_r 29, pe_i r, pe_i a, pe_i b] σ (pe_qv (fun σ' => pe_B σ' ∧ (∀ b, b ∉ [29, 42, 43, 46] → σ' b = σ b) ∧ (∀ j, j ∉ ([36, 37, 38, 39, 40, 43] : List Int) → σ' 29 j = σ 29 j) ∧ σ' 29 36 = r ∧ ((r = 1 ∧ σ' 29 43 = σ 29 43 + 8 + σ 29 21) ∨ (r ≠ 1 ∧ σ' 29 43 = σ 29 43 + 12 + σ 29 21)))) := by
  refine pe_in0 (lv := [some (pe_r 29), some (pe_i r), some (pe_i a), some (pe_i b), none]) ?_
  have hB0 := hB
  have J3 : ∀ x : Int × pe_H, (pe_B x.2 ∧ (∀ b, b ∉ [29, 42, 43, 46] → x.2 b = σ b) ∧ (∀ j, j ∉ ([36, 37, 38, 39, 40, 43] : List Int) → x.2 29 j = σ 29 j) ∧ (∀ j, 0 ≤ j → j < σ 29 21 → 32 ≤ x.2 42 (σ 29 21 * r + j) ∧ x.2 42 (σ 29 21 * r + j) ≤ 126) ∧ (0 ≤ x.1 ∧ x.1 ≤ σ 29 21) ∧ ((x.1 = 0 ∧ x.2 29 36 = 0 ∧ x.2 29 37 = 0 ∧ x.2 29 38 = 0 ∧ x.2 29 39 = 0 ∧ x.2 29 43 = σ 29 43) ∨ (1 ≤ x.1 ∧ x.2 29 36 = r ∧ x.2 29 39 = 1 ∧ (x.1 < σ 29 21 → x.2 29 37 = x.1 ∧ x.2 29 38 = 0) ∧ ((r = 1 ∧ x.2 29 43 = σ 29 43 + 8 + x.1) ∨ (r ≠ 1 ∧ x.2 29 43 = σ 29 43 + 12 + x.1))))) → pe_G m_M_sendClusters 3 [some (pe_r 29), some (pe_i r), some (pe_i a), some (pe_i b), some (pe_i x.1)] [] x.2 (pe_qv (fun σ' => pe_B σ' ∧ (∀ b, b ∉ [29, 42, 43, 46] → σ' b = σ b) ∧ (∀ j, j ∉ ([36, 37, 38, 39, 40, 43] : List Int) → σ' 29 j = σ 29 j) ∧ σ' 29 36 = r ∧ ((r = 1 ∧ σ' 29 43 = σ 29 43 + 8 + σ 29 21) ∨ (r ≠ 1 ∧ σ' 29 43 = σ 29 43 + 12 + σ 29 21)))) := by
    refine pe_loop (fun x : Int × pe_H => (100 - x.1).toNat) _ _ ?_
    intro x hI ih
    obtain ⟨k, τ⟩ := x
    dsimp only at hI ⊢
    obtain ⟨hB, hfr, hX⟩ := hI
    obtain ⟨hO, hz, hX⟩ := hX
    have c21 := hO 21 (by decide)
    have c22 := hO 22 (by decide)
    have c40 := hfr 40 (by decide)
    have c41 := hfr 41 (by decide)
    have hBt := hB
    refine pe_iload d_M_sendClusters_3 rfl ?_
    refine pe_iload_n d_M_sendClusters_5 rfl ?_
    refine pe_icmp_gt (t := 53) d_M_sendClusters_6 (by first | exact hB _ _ | exact hB0 _ _ | exact hBt _ _ | exact ⟨by omega, by omega⟩) (by first | exact hB _ _ | exact hB0 _ _ | exact hBt _ _ | exact ⟨by omega, by omega⟩) (fun h6 => ?_) (fun h6 => ?_)
    · skip
      refine pe_rv d_M_sendClusters_53 ?_
      exact ⟨hB, (fun b hb => hfr b (by simp at hb ⊢; try omega)), (fun j hj => hO j hj), by omega⟩
    · skip
      refine pe_aload_n d_M_sendClusters_9 rfl ?_
      refine pe_iload_n d_M_sendClusters_10 rfl ?_
      refine pe_iload d_M_sendClusters_11 rfl ?_
      refine pe_v2v d_M_sendClusters_13 c_M_294 i_M_sendCluster s_M_sendCluster rfl rfl (y_M_sendCluster hB (by omega) (by omega) (by omega) (by omega) (by rw [c21]; exact hz) (by rw [c21, c40, c41]; exact hu _ (by omega) (by omega)) (by omega)) (fun σ13 hz13 => ?_)
      obtain ⟨hB, f13, o13, x13⟩ := hz13
      try have u13_0 : σ13 29 1 = τ 29 1 := by first | exact o13 1 (by decide) | exact congrFun (f13 29 (by decide)) 1
      try have u13_1 : σ13 29 2 = τ 29 2 := by first | exact o13 2 (by decide) | exact congrFun (f13 29 (by decide)) 2
      try have u13_2 : σ13 29 3 = τ 29 3 := by first | exact o13 3 (by decide) | exact congrFun (f13 29 (by decide)) 3
      try have u13_3 : σ13 29 7 = τ 29 7 := by first | exact o13 7 (by decide) | exact congrFun (f13 29 (by decide)) 7
      try have u13_4 : σ13 29 21 = τ 29 21 := by first | exact o13 21 (by decide) | exact congrFun (f13 29 (by decide)) 21
      try have u13_5 : σ13 29 22 = τ 29 22 := by first | exact o13 22 (by decide) | exact congrFun (f13 29 (by decide)) 22
      try have u13_6 : σ13 29 27 = τ 29 27 := by first | exact o13 27 (by decide) | exact congrFun (f13 29 (by decide)) 27
      try have u13_7 : σ13 29 30 = τ 29 30 := by first | exact o13 30 (by decide) | exact congrFun (f13 29 (by decide)) 30
      try have u13_8 : σ13 29 31 = τ 29 31 := by first | exact o13 31 (by decide) | exact congrFun (f13 29 (by decide)) 31
      try have u13_9 : σ13 29 36 = τ 29 36 := by first | exact o13 36 (by decide) | exact congrFun (f13 29 (by decide)) 36
      try have u13_10 : σ13 29 37 = τ 29 37 := by first | exact o13 37 (by decide) | exact congrFun (f13 29 (by decide)) 37
      try have u13_11 : σ13 29 38 = τ 29 38 := by first | exact o13 38 (by decide) | exact congrFun (f13 29 (by decide)) 38
      try have u13_12 : σ13 29 39 = τ 29 39 := by first | exact o13 39 (by decide) | exact congrFun (f13 29 (by decide)) 39
      try have u13_13 : σ13 29 40 = τ 29 40 := by first | exact o13 40 (by decide) | exact congrFun (f13 29 (by decide)) 40
      try have u13_14 : σ13 29 41 = τ 29 41 := by first | exact o13 41 (by decide) | exact congrFun (f13 29 (by decide)) 41
      try have u13_15 : σ13 29 43 = τ 29 43 := by first | exact o13 43 (by decide) | exact congrFun (f13 29 (by decide)) 43
      have d21 : σ13 29 21 = σ 29 21 := (o13 21 (by decide)).trans c21
      have d40 : σ13 40 = σ 40 := (f13 40 (by decide)).trans c40
      have hix := pe_ix (r := r) (c := k) (H := σ 29 22) (W := σ 29 21) (by omega) (by omega) (by omega) (by omega)
      have uk := hu k (by omega) (by omega)
      refine pe_iload d_M_sendClusters_16 rfl ?_
      refine pe_aload_n d_M_sendClusters_18 rfl ?_
      refine pe_getr f_M_50 d_M_sendClusters_19 rfl rfl ?_
      refine pe_aload_n d_M_sendClusters_22 rfl ?_
      refine pe_geti f_M_78 d_M_sendClusters_23 rfl rfl 21 rfl ?_
      refine pe_iload_n d_M_sendClusters_26 rfl ?_
      refine pe_imul d_M_sendClusters_27 ?_
      refine pe_iload d_M_sendClusters_28 rfl ?_
      refine pe_iadd d_M_sendClusters_30 ?_
      rw [d21]
      refine pe_iald d_M_sendClusters_31 rfl (by omega) (by omega) ?_
      rw [d40]
      refine pe_ldcw q_M_256 d_M_sendClusters_32 (z := 65535) rfl ?_
      refine pe_iand d_M_sendClusters_35 (pe_a127 ⟨by omega, by omega⟩).1 ?_
      refine pe_s1p d_M_sendClusters_36 c_M_97 z_M_isWide (t_M_isWide (by first | exact hB _ _ | exact hB0 _ _ | exact hBt _ _ | exact ⟨by omega, by omega⟩)) (fun z36 hz36 => ?_)
      unfold pe_wi at hz36
      refine pe_if_eq (t := 46) d_M_sendClusters_39 (by first | exact hB _ _ | exact hB0 _ _ | exact hBt _ _ | exact ⟨by omega, by omega⟩) (fun h39 => ?_) (fun h39 => ?_)
      · skip
        refine pe_iconst d_M_sendClusters_46 ?_
        refine pe_iadd d_M_sendClusters_47 ?_
        refine pe_istore d_M_sendClusters_48 ?_
        refine pe_goto (t := 3) d_M_sendClusters_50 ?_
        exact ih (_, _) ⟨hB, (fun b hb => (f13 b (by simp at hb ⊢; try omega)).trans (hfr b (by simp at hb ⊢; try omega))), fun j hj => (o13 j hj).trans (hO j hj), by have q := x13.2.1; rw [c21] at q; exact q, by (try dsimp only); rw [c21] at x13; (try dsimp only); omega⟩ (by (try dsimp only); omega)
      · skip
        exfalso; omega
  refine pe_iload_n d_M_sendClusters_0 rfl ?_
  refine pe_istore d_M_sendClusters_1 ?_
  exact J3 (_, _) ⟨hB, (fun b hb => rfl), fun _ _ => rfl, hz, by (try dsimp only); omega⟩
theorem y_M_differs0 {σ : pe_H} {a : Int} (hB : pe_B σ) (ha : 0 ≤ a ∧ a < 192) (he : σ 40 a = σ 42 a ∧ σ 41 a = σ 43 a) : pe_M m_M_differs [pe_r 29, pe_i a] σ (pe_qp σ (fun z => z = 0)) := by
  refine pe_in0 (lv := [some (pe_r 29), some (pe_i a)]) ?_
  have hB0 := hB
  refine pe_aload_n d_M_differs_0 rfl ?_
  refine pe_getr f_M_50 d_M_differs_1 rfl rfl ?_
  refine pe_iload_n d_M_differs_4 rfl ?_
  refine pe_iald d_M_differs_5 rfl (by omega) (by omega) ?_
  refine pe_aload_n d_M_differs_6 rfl ?_
  refine pe_getr f_M_56 d_M_differs_7 rfl rfl ?_
  refine pe_iload_n d_M_differs_10 rfl ?_
  refine pe_iald d_M_differs_11 rfl (by omega) (by omega) ?_
  refine pe_icmp_ne (t := 30) d_M_differs_12 (by first | exact hB _ _ | exact hB0 _ _ | exact hBt _ _ | exact ⟨by omega, by omega⟩) (by first | exact hB _ _ | exact hB0 _ _ | exact hBt _ _ | exact ⟨by omega, by omega⟩) (fun h12 => ?_) (fun h12 => ?_)
  · skip
    exfalso; omega
  · skip
    refine pe_aload_n d_M_differs_15 rfl ?_
    refine pe_getr f_M_53 d_M_differs_16 rfl rfl ?_
    refine pe_iload_n d_M_differs_19 rfl ?_
    refine pe_iald d_M_differs_20 rfl (by omega) (by omega) ?_
    refine pe_aload_n d_M_differs_21 rfl ?_
    refine pe_getr f_M_59 d_M_differs_22 rfl rfl ?_
    refine pe_iload_n d_M_differs_25 rfl ?_
    refine pe_iald d_M_differs_26 rfl (by omega) (by omega) ?_
    refine pe_icmp_eq (t := 34) d_M_differs_27 (by first | exact hB _ _ | exact hB0 _ _ | exact hBt _ _ | exact ⟨by omega, by omega⟩) (by first | exact hB _ _ | exact hB0 _ _ | exact hBt _ _ | exact ⟨by omega, by omega⟩) (fun h27 => ?_) (fun h27 => ?_)
    · skip
      refine pe_iconst d_M_differs_34 ?_
      refine pe_rz d_M_differs_35 (by first | exact Or.inl rfl | exact Or.inr rfl | omega) ?_
      exact ⟨rfl, rfl⟩
    · skip
      exfalso; omega
theorem y_M_differs1 {σ : pe_H} {a : Int} (hB : pe_B σ) (ha : 0 ≤ a ∧ a < 192) (he : σ 41 a ≠ σ 43 a) : pe_M m_M_differs [pe_r 29, pe_i a] σ (pe_qp σ (fun z => z = 1)) := by
  refine pe_in0 (lv := [some (pe_r 29), some (pe_i a)]) ?_
  have hB0 := hB
  refine pe_aload_n d_M_differs_0 rfl ?_
  refine pe_getr f_M_50 d_M_differs_1 rfl rfl ?_
  refine pe_iload_n d_M_differs_4 rfl ?_
  refine pe_iald d_M_differs_5 rfl (by omega) (by omega) ?_
  refine pe_aload_n d_M_differs_6 rfl ?_
  refine pe_getr f_M_56 d_M_differs_7 rfl rfl ?_
  refine pe_iload_n d_M_differs_10 rfl ?_
  refine pe_iald d_M_differs_11 rfl (by omega) (by omega) ?_
  refine pe_icmp_ne (t := 30) d_M_differs_12 (by first | exact hB _ _ | exact hB0 _ _ | exact hBt _ _ | exact ⟨by omega, by omega⟩) (by first | exact hB _ _ | exact hB0 _ _ | exact hBt _ _ | exact ⟨by omega, by omega⟩) (fun h12 => ?_) (fun h12 => ?_)
  · skip
    refine pe_iconst d_M_differs_30 ?_
    refine pe_goto (t := 35) d_M_differs_31 ?_
    refine pe_rz d_M_differs_35 (by first | exact Or.inl rfl | exact Or.inr rfl | omega) ?_
    exact ⟨rfl, rfl⟩
  · skip
    refine pe_aload_n d_M_differs_15 rfl ?_
    refine pe_getr f_M_53 d_M_differs_16 rfl rfl ?_
    refine pe_iload_n d_M_differs_19 rfl ?_
    refine pe_iald d_M_differs_20 rfl (by omega) (by omega) ?_
    refine pe_aload_n d_M_differs_21 rfl ?_
    refine pe_getr f_M_59 d_M_differs_22 rfl rfl ?_
    refine pe_iload_n d_M_differs_25 rfl ?_
    refine pe_iald d_M_differs_26 rfl (by omega) (by omega) ?_
    refine pe_icmp_eq (t := 34) d_M_differs_27 (by first | exact hB _ _ | exact hB0 _ _ | exact hBt _ _ | exact ⟨by omega, by omega⟩) (by first | exact hB _ _ | exact hB0 _ _ | exact hBt _ _ | exact ⟨by omega, by omega⟩) (fun h27 => ?_) (fun h27 => ?_)
    · skip
      exfalso; omega
    · skip
      refine pe_iconst d_M_differs_30 ?_
      refine pe_goto (t := 35) d_M_differs_31 ?_
      refine pe_rz d_M_differs_35 (by first | exact Or.inl rfl | exact Or.inr rfl | omega) ?_
      exact ⟨rfl, rfl⟩
theorem y_M_drawRow0 {σ : pe_H} {r : Int} (hB : pe_B σ) (hW : 1 ≤ σ 29 21 ∧ σ 29 21 ≤ 24 ∧ 1 ≤ σ 29 22 ∧ σ 29 22 ≤ 8) (hr : 0 ≤ r ∧ r < σ 29 22) (he : ∀ c, 0 ≤ c → c < σ 29 21 → σ 40 (σ 29 21 * r + c) = σ 42 (σ 29 21 * r + c) ∧ σ 41 (σ 29 21 * r + c) = σ 43 (σ 29 21 * r + c)) : pe_M m_M_drawRow [pe_r 29, pe_i r] σ (pe_qv (fun σ' => σ' = σ)) := by
  refine pe_in0 (lv := [some (pe_r 29), some (pe_i r), none, none, none, none, none, none]) ?_
  have hB0 := hB
  have hix := pe_ix (r := r) (c := 0) (H := σ 29 22) (W := σ 29 21) (by omega) (by omega) (by omega) (by omega)
  have J9 : ∀ a : Int, (0 ≤ a ∧ a ≤ σ 29 21) → pe_G m_M_drawRow 9 [some (pe_r 29), some (pe_i r), some (pe_i (σ 29 21 * r)), some (pe_i a), none, none, none, none] [] σ (pe_qv (fun σ' => σ' = σ)) := by
    refine pe_loop (fun a : Int => (100 - a).toNat) _ _ ?_
    intro a hI ih
    refine pe_iload_n d_M_drawRow_9 rfl ?_
    refine pe_aload_n d_M_drawRow_10 rfl ?_
    refine pe_geti f_M_78 d_M_drawRow_11 rfl rfl 21 rfl ?_
    refine pe_icmp_ge (t := 33) d_M_drawRow_14 (by first | exact hB _ _ | exact hB0 _ _ | exact hBt _ _ | exact ⟨by omega, by omega⟩) (by first | exact hB _ _ | exact hB0 _ _ | exact hBt _ _ | exact ⟨by omega, by omega⟩) (fun h14 => ?_) (fun h14 => ?_)
    · skip
      refine pe_iload_n d_M_drawRow_33 rfl ?_
      refine pe_aload_n d_M_drawRow_34 rfl ?_
      refine pe_geti f_M_78 d_M_drawRow_35 rfl rfl 21 rfl ?_
      refine pe_icmp_ne (t := 42) d_M_drawRow_38 (by first | exact hB _ _ | exact hB0 _ _ | exact hBt _ _ | exact ⟨by omega, by omega⟩) (by first | exact hB _ _ | exact hB0 _ _ | exact hBt _ _ | exact ⟨by omega, by omega⟩) (fun h38 => ?_) (fun h38 => ?_)
      · skip
        exfalso; omega
      · skip
        refine pe_rv d_M_drawRow_41 ?_
        first | (exfalso; omega) | rfl
    · skip
      refine pe_aload_n d_M_drawRow_17 rfl ?_
      refine pe_iload_n d_M_drawRow_18 rfl ?_
      refine pe_iload_n d_M_drawRow_19 rfl ?_
      refine pe_iadd d_M_drawRow_20 ?_
      refine pe_v1p d_M_drawRow_21 c_M_297 i_M_differs s_M_differs rfl rfl (y_M_differs0 hB (by omega) (he _ (by omega) (by omega))) (fun z21 hz21 => ?_)
      refine pe_if_ne (t := 33) d_M_drawRow_24 (by first | exact hB _ _ | exact hB0 _ _ | exact hBt _ _ | exact ⟨by omega, by omega⟩) (fun h24 => ?_) (fun h24 => ?_)
      · skip
        refine pe_iload_n d_M_drawRow_33 rfl ?_
        refine pe_aload_n d_M_drawRow_34 rfl ?_
        refine pe_geti f_M_78 d_M_drawRow_35 rfl rfl 21 rfl ?_
        refine pe_icmp_ne (t := 42) d_M_drawRow_38 (by first | exact hB _ _ | exact hB0 _ _ | exact hBt _ _ | exact ⟨by omega, by omega⟩) (by first | exact hB _ _ | exact hB0 _ _ | exact hBt _ _ | exact ⟨by omega, by omega⟩) (fun h38 => ?_) (fun h38 => ?_)
        · skip
          exfalso; omega
        · skip
          refine pe_rv d_M_drawRow_41 ?_
          first | (exfalso; omega) | rfl
      · skip
        refine pe_iinc d_M_drawRow_27 rfl ?_
        refine pe_goto (t := 9) d_M_drawRow_30 ?_
        exact ih _ (by omega) (by omega)
  refine pe_aload_n d_M_drawRow_0 rfl ?_
  refine pe_geti f_M_78 d_M_drawRow_1 rfl rfl 21 rfl ?_
  refine pe_iload_n d_M_drawRow_4 rfl ?_
  refine pe_imul d_M_drawRow_5 ?_
  refine pe_istore_n d_M_drawRow_6 ?_
  refine pe_iconst d_M_drawRow_7 ?_
  refine pe_istore_n d_M_drawRow_8 ?_
  exact J9 _ (by omega)
theorem y_M_drawRow1 {σ : pe_H} {r : Int} (hB : pe_B σ) (hq : 0 ≤ σ 29 43 ∧ σ 29 43 ≤ 900) (hW : 1 ≤ σ 29 21 ∧ σ 29 21 ≤ 24 ∧ 1 ≤ σ 29 22 ∧ σ 29 22 ≤ 8) (hr : 1 ≤ r ∧ r < σ 29 22) (hu : ∀ c, 0 ≤ c → c < σ 29 21 → (32 ≤ σ 40 (σ 29 21 * r + c) ∧ σ 40 (σ 29 21 * r + c) ≤ 126) ∧ σ 41 (σ 29 21 * r + c) = 1) (hs : ∀ c, 0 ≤ c → c < σ 29 21 → σ 42 (σ 29 21 * r + c) = 32 ∧ σ 43 (σ 29 21 * r + c) = 0) (hp : σ 29 36 = 0 ∧ σ 29 37 = 0 ∧ σ 29 38 = 0 ∧ σ 29 39 = 0) : pe_M m_M_drawRow [pe_r 29, pe_i r] σ (pe_qv (fun σ' => pe_B σ' ∧ (∀ b, b ∉ [29, 42, 43, 46] → σ' b = σ b) ∧ (∀ j, j ∉ ([36, 37, 38, 39, 40, 43] : List Int) → σ' 29 j = σ 29 j) ∧ σ' 29 36 = r ∧ ((r = 1 ∧ σ' 29 43 = σ 29 43 + 8 + σ 29 21) ∨ (r ≠ 1 ∧ σ' 29 43 = σ 29 43 + 12 + σ 29 21)))) := by
  refine pe_in0 (lv := [some (pe_r 29), some (pe_i r), none, none, none, none, none, none]) ?_
  have hB0 := hB
  have hix := pe_ix (r := r) (c := 0) (H := σ 29 22) (W := σ 29 21) (by omega) (by omega) (by omega) (by omega)
  have u0 := hu 0 (by omega) (by omega)
  have s0 := hs 0 (by omega) (by omega)
  have u1 := hu (σ 29 21 - 1) (by omega) (by omega)
  have s1 := hs (σ 29 21 - 1) (by omega) (by omega)
  have ee : σ 29 21 * r + σ 29 21 - 1 = σ 29 21 * r + (σ 29 21 - 1) := by omega
  refine pe_aload_n d_M_drawRow_0 rfl ?_
  refine pe_geti f_M_78 d_M_drawRow_1 rfl rfl 21 rfl ?_
  refine pe_iload_n d_M_drawRow_4 rfl ?_
  refine pe_imul d_M_drawRow_5 ?_
  refine pe_istore_n d_M_drawRow_6 ?_
  refine pe_iconst d_M_drawRow_7 ?_
  refine pe_istore_n d_M_drawRow_8 ?_
  refine pe_iload_n d_M_drawRow_9 rfl ?_
  refine pe_aload_n d_M_drawRow_10 rfl ?_
  refine pe_geti f_M_78 d_M_drawRow_11 rfl rfl 21 rfl ?_
  refine pe_icmp_ge (t := 33) d_M_drawRow_14 (by first | exact hB _ _ | exact hB0 _ _ | exact hBt _ _ | exact ⟨by omega, by omega⟩) (by first | exact hB _ _ | exact hB0 _ _ | exact hBt _ _ | exact ⟨by omega, by omega⟩) (fun h14 => ?_) (fun h14 => ?_)
  · skip
    refine pe_iload_n d_M_drawRow_33 rfl ?_
    refine pe_aload_n d_M_drawRow_34 rfl ?_
    refine pe_geti f_M_78 d_M_drawRow_35 rfl rfl 21 rfl ?_
    refine pe_icmp_ne (t := 42) d_M_drawRow_38 (by first | exact hB _ _ | exact hB0 _ _ | exact hBt _ _ | exact ⟨by omega, by omega⟩) (by first | exact hB _ _ | exact hB0 _ _ | exact hBt _ _ | exact ⟨by omega, by omega⟩) (fun h38 => ?_) (fun h38 => ?_)
    · skip
      refine pe_aload_n d_M_drawRow_42 rfl ?_
      refine pe_geti f_M_78 d_M_drawRow_43 rfl rfl 21 rfl ?_
      refine pe_iconst d_M_drawRow_46 ?_
      refine pe_isub d_M_drawRow_47 ?_
      refine pe_istore d_M_drawRow_48 ?_
      refine pe_aload_n d_M_drawRow_50 rfl ?_
      refine pe_iload_n d_M_drawRow_51 rfl ?_
      refine pe_iload d_M_drawRow_52 rfl ?_
      refine pe_iadd d_M_drawRow_54 ?_
      refine pe_v1p d_M_drawRow_55 c_M_297 i_M_differs s_M_differs rfl rfl (y_M_differs1 hB (by omega) (by omega)) (fun z55 hz55 => ?_)
      refine pe_if_ne (t := 67) d_M_drawRow_58 (by first | exact hB _ _ | exact hB0 _ _ | exact hBt _ _ | exact ⟨by omega, by omega⟩) (fun h58 => ?_) (fun h58 => ?_)
      · skip
        refine pe_aload_n d_M_drawRow_67 rfl ?_
        refine pe_getr f_M_50 d_M_drawRow_68 rfl rfl ?_
        refine pe_iload_n d_M_drawRow_71 rfl ?_
        refine pe_iload_n d_M_drawRow_72 rfl ?_
        refine pe_iadd d_M_drawRow_73 ?_
        refine pe_iald d_M_drawRow_74 rfl (by omega) (by omega) ?_
        refine pe_if_ne (t := 81) d_M_drawRow_75 (by first | exact hB _ _ | exact hB0 _ _ | exact hBt _ _ | exact ⟨by omega, by omega⟩) (fun h75 => ?_) (fun h75 => ?_)
        · skip
          refine pe_aload_n d_M_drawRow_81 rfl ?_
          refine pe_geti f_M_78 d_M_drawRow_82 rfl rfl 21 rfl ?_
          refine pe_istore d_M_drawRow_85 ?_
          refine pe_iload d_M_drawRow_87 rfl ?_
          refine pe_if_le (t := 128) d_M_drawRow_89 (by first | exact hB _ _ | exact hB0 _ _ | exact hBt _ _ | exact ⟨by omega, by omega⟩) (fun h89 => ?_) (fun h89 => ?_)
          · skip
            refine pe_iload_n d_M_drawRow_128 rfl ?_
            refine pe_iload d_M_drawRow_129 rfl ?_
            refine pe_icmp_le (t := 138) d_M_drawRow_131 (by first | exact hB _ _ | exact hB0 _ _ | exact hBt _ _ | exact ⟨by omega, by omega⟩) (by first | exact hB _ _ | exact hB0 _ _ | exact hBt _ _ | exact ⟨by omega, by omega⟩) (fun h131 => ?_) (fun h131 => ?_)
            · skip
              refine pe_iload d_M_drawRow_138 rfl ?_
              refine pe_istore d_M_drawRow_140 ?_
              refine pe_iload d_M_drawRow_142 rfl ?_
              refine pe_iload d_M_drawRow_144 rfl ?_
              refine pe_isub d_M_drawRow_146 ?_
              refine pe_iconst d_M_drawRow_147 ?_
              refine pe_iadd d_M_drawRow_148 ?_
              refine pe_iconst d_M_drawRow_149 ?_
              refine pe_icmp_gt (t := 162) d_M_drawRow_150 (by first | exact hB _ _ | exact hB0 _ _ | exact hBt _ _ | exact ⟨by omega, by omega⟩) (by first | exact hB _ _ | exact hB0 _ _ | exact hBt _ _ | exact ⟨by omega, by omega⟩) (fun h150 => ?_) (fun h150 => ?_)
              · skip
                exfalso; omega
              · skip
                refine pe_aload_n d_M_drawRow_153 rfl ?_
                refine pe_iload_n d_M_drawRow_154 rfl ?_
                refine pe_iload_n d_M_drawRow_155 rfl ?_
                refine pe_iload d_M_drawRow_156 rfl ?_
                refine pe_v3v d_M_drawRow_158 c_M_300 i_M_sendClusters s_M_sendClusters rfl rfl (y_M_sendClusters hB (by omega) (by omega) (by omega) (by omega) (by omega) (fun j h1 h2 => by have q := hs j h1 h2; omega) hu (by omega)) (fun σ158 hz158 => ?_)
                obtain ⟨hB, f158, o158, x158⟩ := hz158
                try have u158_0 : σ158 29 1 = σ 29 1 := by first | exact o158 1 (by decide) | exact congrFun (f158 29 (by decide)) 1
                try have u158_1 : σ158 29 2 = σ 29 2 := by first | exact o158 2 (by decide) | exact congrFun (f158 29 (by decide)) 2
                try have u158_2 : σ158 29 3 = σ 29 3 := by first | exact o158 3 (by decide) | exact congrFun (f158 29 (by decide)) 3
                try have u158_3 : σ158 29 7 = σ 29 7 := by first | exact o158 7 (by decide) | exact congrFun (f158 29 (by decide)) 7
                try have u158_4 : σ158 29 21 = σ 29 21 := by first | exact o158 21 (by decide) | exact congrFun (f158 29 (by decide)) 21
                try have u158_5 : σ158 29 22 = σ 29 22 := by first | exact o158 22 (by decide) | exact congrFun (f158 29 (by decide)) 22
                try have u158_6 : σ158 29 27 = σ 29 27 := by first | exact o158 27 (by decide) | exact congrFun (f158 29 (by decide)) 27
                try have u158_7 : σ158 29 30 = σ 29 30 := by first | exact o158 30 (by decide) | exact congrFun (f158 29 (by decide)) 30
                try have u158_8 : σ158 29 31 = σ 29 31 := by first | exact o158 31 (by decide) | exact congrFun (f158 29 (by decide)) 31
                try have u158_9 : σ158 29 36 = σ 29 36 := by first | exact o158 36 (by decide) | exact congrFun (f158 29 (by decide)) 36
                try have u158_10 : σ158 29 37 = σ 29 37 := by first | exact o158 37 (by decide) | exact congrFun (f158 29 (by decide)) 37
                try have u158_11 : σ158 29 38 = σ 29 38 := by first | exact o158 38 (by decide) | exact congrFun (f158 29 (by decide)) 38
                try have u158_12 : σ158 29 39 = σ 29 39 := by first | exact o158 39 (by decide) | exact congrFun (f158 29 (by decide)) 39
                try have u158_13 : σ158 29 40 = σ 29 40 := by first | exact o158 40 (by decide) | exact congrFun (f158 29 (by decide)) 40
                try have u158_14 : σ158 29 41 = σ 29 41 := by first | exact o158 41 (by decide) | exact congrFun (f158 29 (by decide)) 41
                try have u158_15 : σ158 29 43 = σ 29 43 := by first | exact o158 43 (by decide) | exact congrFun (f158 29 (by decide)) 43
                refine pe_rv d_M_drawRow_161 ?_
                first | (exfalso; omega) | exact ⟨hB, (fun b hb => (f158 b (by simp at hb ⊢; try omega)).trans (rfl)), (fun j hj => (o158 j (by simp at hj ⊢; try omega)).trans (rfl)), x158⟩
            · skip
              exfalso; omega
          · skip
            refine pe_aload_n d_M_drawRow_92 rfl ?_
            refine pe_getr f_M_50 d_M_drawRow_93 rfl rfl ?_
            refine pe_iload_n d_M_drawRow_96 rfl ?_
            refine pe_iload d_M_drawRow_97 rfl ?_
            refine pe_iadd d_M_drawRow_99 ?_
            refine pe_iconst d_M_drawRow_100 ?_
            refine pe_isub d_M_drawRow_101 ?_
            refine pe_iald d_M_drawRow_102 rfl (by omega) (by omega) ?_
            refine pe_bipush d_M_drawRow_103 ?_
            refine pe_icmp_ne (t := 128) d_M_drawRow_105 (by first | exact hB _ _ | exact hB0 _ _ | exact hBt _ _ | exact ⟨by omega, by omega⟩) (by first | exact hB _ _ | exact hB0 _ _ | exact hBt _ _ | exact ⟨by omega, by omega⟩) (fun h105 => ?_) (fun h105 => ?_)
            · skip
              refine pe_iload_n d_M_drawRow_128 rfl ?_
              refine pe_iload d_M_drawRow_129 rfl ?_
              refine pe_icmp_le (t := 138) d_M_drawRow_131 (by first | exact hB _ _ | exact hB0 _ _ | exact hBt _ _ | exact ⟨by omega, by omega⟩) (by first | exact hB _ _ | exact hB0 _ _ | exact hBt _ _ | exact ⟨by omega, by omega⟩) (fun h131 => ?_) (fun h131 => ?_)
              · skip
                refine pe_iload d_M_drawRow_138 rfl ?_
                refine pe_istore d_M_drawRow_140 ?_
                refine pe_iload d_M_drawRow_142 rfl ?_
                refine pe_iload d_M_drawRow_144 rfl ?_
                refine pe_isub d_M_drawRow_146 ?_
                refine pe_iconst d_M_drawRow_147 ?_
                refine pe_iadd d_M_drawRow_148 ?_
                refine pe_iconst d_M_drawRow_149 ?_
                refine pe_icmp_gt (t := 162) d_M_drawRow_150 (by first | exact hB _ _ | exact hB0 _ _ | exact hBt _ _ | exact ⟨by omega, by omega⟩) (by first | exact hB _ _ | exact hB0 _ _ | exact hBt _ _ | exact ⟨by omega, by omega⟩) (fun h150 => ?_) (fun h150 => ?_)
                · skip
                  exfalso; omega
                · skip
                  refine pe_aload_n d_M_drawRow_153 rfl ?_
                  refine pe_iload_n d_M_drawRow_154 rfl ?_
                  refine pe_iload_n d_M_drawRow_155 rfl ?_
                  refine pe_iload d_M_drawRow_156 rfl ?_
                  refine pe_v3v d_M_drawRow_158 c_M_300 i_M_sendClusters s_M_sendClusters rfl rfl (y_M_sendClusters hB (by omega) (by omega) (by omega) (by omega) (by omega) (fun j h1 h2 => by have q := hs j h1 h2; omega) hu (by omega)) (fun σ158 hz158 => ?_)
                  obtain ⟨hB, f158, o158, x158⟩ := hz158
                  try have u158_0 : σ158 29 1 = σ 29 1 := by first | exact o158 1 (by decide) | exact congrFun (f158 29 (by decide)) 1
                  try have u158_1 : σ158 29 2 = σ 29 2 := by first | exact o158 2 (by decide) | exact congrFun (f158 29 (by decide)) 2
                  try have u158_2 : σ158 29 3 = σ 29 3 := by first | exact o158 3 (by decide) | exact congrFun (f158 29 (by decide)) 3
                  try have u158_3 : σ158 29 7 = σ 29 7 := by first | exact o158 7 (by decide) | exact congrFun (f158 29 (by decide)) 7
                  try have u158_4 : σ158 29 21 = σ 29 21 := by first | exact o158 21 (by decide) | exact congrFun (f158 29 (by decide)) 21
                  try have u158_5 : σ158 29 22 = σ 29 22 := by first | exact o158 22 (by decide) | exact congrFun (f158 29 (by decide)) 22
                  try have u158_6 : σ158 29 27 = σ 29 27 := by first | exact o158 27 (by decide) | exact congrFun (f158 29 (by decide)) 27
                  try have u158_7 : σ158 29 30 = σ 29 30 := by first | exact o158 30 (by decide) | exact congrFun (f158 29 (by decide)) 30
                  try have u158_8 : σ158 29 31 = σ 29 31 := by first | exact o158 31 (by decide) | exact congrFun (f158 29 (by decide)) 31
                  try have u158_9 : σ158 29 36 = σ 29 36 := by first | exact o158 36 (by decide) | exact congrFun (f158 29 (by decide)) 36
                  try have u158_10 : σ158 29 37 = σ 29 37 := by first | exact o158 37 (by decide) | exact congrFun (f158 29 (by decide)) 37
                  try have u158_11 : σ158 29 38 = σ 29 38 := by first | exact o158 38 (by decide) | exact congrFun (f158 29 (by decide)) 38
                  try have u158_12 : σ158 29 39 = σ 29 39 := by first | exact o158 39 (by decide) | exact congrFun (f158 29 (by decide)) 39
                  try have u158_13 : σ158 29 40 = σ 29 40 := by first | exact o158 40 (by decide) | exact congrFun (f158 29 (by decide)) 40
                  try have u158_14 : σ158 29 41 = σ 29 41 := by first | exact o158 41 (by decide) | exact congrFun (f158 29 (by decide)) 41
                  try have u158_15 : σ158 29 43 = σ 29 43 := by first | exact o158 43 (by decide) | exact congrFun (f158 29 (by decide)) 43
                  refine pe_rv d_M_drawRow_161 ?_
                  first | (exfalso; omega) | exact ⟨hB, (fun b hb => (f158 b (by simp at hb ⊢; try omega)).trans (rfl)), (fun j hj => (o158 j (by simp at hj ⊢; try omega)).trans (rfl)), x158⟩
              · skip
                exfalso; omega
            · skip
              refine pe_aload_n d_M_drawRow_108 rfl ?_
              refine pe_getr f_M_53 d_M_drawRow_109 rfl rfl ?_
              refine pe_iload_n d_M_drawRow_112 rfl ?_
              refine pe_iload d_M_drawRow_113 rfl ?_
              refine pe_iadd d_M_drawRow_115 ?_
              refine pe_iconst d_M_drawRow_116 ?_
              refine pe_isub d_M_drawRow_117 ?_
              rw [ee]
              refine pe_iald d_M_drawRow_118 rfl (by omega) (by omega) ?_
              refine pe_if_ne (t := 128) d_M_drawRow_119 (by first | exact hB _ _ | exact hB0 _ _ | exact hBt _ _ | exact ⟨by omega, by omega⟩) (fun h119 => ?_) (fun h119 => ?_)
              · skip
                refine pe_iload_n d_M_drawRow_128 rfl ?_
                refine pe_iload d_M_drawRow_129 rfl ?_
                refine pe_icmp_le (t := 138) d_M_drawRow_131 (by first | exact hB _ _ | exact hB0 _ _ | exact hBt _ _ | exact ⟨by omega, by omega⟩) (by first | exact hB _ _ | exact hB0 _ _ | exact hBt _ _ | exact ⟨by omega, by omega⟩) (fun h131 => ?_) (fun h131 => ?_)
                · skip
                  refine pe_iload d_M_drawRow_138 rfl ?_
                  refine pe_istore d_M_drawRow_140 ?_
                  refine pe_iload d_M_drawRow_142 rfl ?_
                  refine pe_iload d_M_drawRow_144 rfl ?_
                  refine pe_isub d_M_drawRow_146 ?_
                  refine pe_iconst d_M_drawRow_147 ?_
                  refine pe_iadd d_M_drawRow_148 ?_
                  refine pe_iconst d_M_drawRow_149 ?_
                  refine pe_icmp_gt (t := 162) d_M_drawRow_150 (by first | exact hB _ _ | exact hB0 _ _ | exact hBt _ _ | exact ⟨by omega, by omega⟩) (by first | exact hB _ _ | exact hB0 _ _ | exact hBt _ _ | exact ⟨by omega, by omega⟩) (fun h150 => ?_) (fun h150 => ?_)
                  · skip
                    exfalso; omega
                  · skip
                    refine pe_aload_n d_M_drawRow_153 rfl ?_
                    refine pe_iload_n d_M_drawRow_154 rfl ?_
                    refine pe_iload_n d_M_drawRow_155 rfl ?_
                    refine pe_iload d_M_drawRow_156 rfl ?_
                    refine pe_v3v d_M_drawRow_158 c_M_300 i_M_sendClusters s_M_sendClusters rfl rfl (y_M_sendClusters hB (by omega) (by omega) (by omega) (by omega) (by omega) (fun j h1 h2 => by have q := hs j h1 h2; omega) hu (by omega)) (fun σ158 hz158 => ?_)
                    obtain ⟨hB, f158, o158, x158⟩ := hz158
                    try have u158_0 : σ158 29 1 = σ 29 1 := by first | exact o158 1 (by decide) | exact congrFun (f158 29 (by decide)) 1
                    try have u158_1 : σ158 29 2 = σ 29 2 := by first | exact o158 2 (by decide) | exact congrFun (f158 29 (by decide)) 2
                    try have u158_2 : σ158 29 3 = σ 29 3 := by first | exact o158 3 (by decide) | exact congrFun (f158 29 (by decide)) 3
                    try have u158_3 : σ158 29 7 = σ 29 7 := by first | exact o158 7 (by decide) | exact congrFun (f158 29 (by decide)) 7
                    try have u158_4 : σ158 29 21 = σ 29 21 := by first | exact o158 21 (by decide) | exact congrFun (f158 29 (by decide)) 21
                    try have u158_5 : σ158 29 22 = σ 29 22 := by first | exact o158 22 (by decide) | exact congrFun (f158 29 (by decide)) 22
                    try have u158_6 : σ158 29 27 = σ 29 27 := by first | exact o158 27 (by decide) | exact congrFun (f158 29 (by decide)) 27
                    try have u158_7 : σ158 29 30 = σ 29 30 := by first | exact o158 30 (by decide) | exact congrFun (f158 29 (by decide)) 30
                    try have u158_8 : σ158 29 31 = σ 29 31 := by first | exact o158 31 (by decide) | exact congrFun (f158 29 (by decide)) 31
                    try have u158_9 : σ158 29 36 = σ 29 36 := by first | exact o158 36 (by decide) | exact congrFun (f158 29 (by decide)) 36
                    try have u158_10 : σ158 29 37 = σ 29 37 := by first | exact o158 37 (by decide) | exact congrFun (f158 29 (by decide)) 37
                    try have u158_11 : σ158 29 38 = σ 29 38 := by first | exact o158 38 (by decide) | exact congrFun (f158 29 (by decide)) 38
                    try have u158_12 : σ158 29 39 = σ 29 39 := by first | exact o158 39 (by decide) | exact congrFun (f158 29 (by decide)) 39
                    try have u158_13 : σ158 29 40 = σ 29 40 := by first | exact o158 40 (by decide) | exact congrFun (f158 29 (by decide)) 40
                    try have u158_14 : σ158 29 41 = σ 29 41 := by first | exact o158 41 (by decide) | exact congrFun (f158 29 (by decide)) 41
                    try have u158_15 : σ158 29 43 = σ 29 43 := by first | exact o158 43 (by decide) | exact congrFun (f158 29 (by decide)) 43
                    refine pe_rv d_M_drawRow_161 ?_
                    first | (exfalso; omega) | exact ⟨hB, (fun b hb => (f158 b (by simp at hb ⊢; try omega)).trans (rfl)), (fun j hj => (o158 j (by simp at hj ⊢; try omega)).trans (rfl)), x158⟩
                · skip
                  exfalso; omega
              · skip
                exfalso; omega
        · skip
          exfalso; omega
      · skip
        exfalso; omega
    · skip
      exfalso; omega
  · skip
    refine pe_aload_n d_M_drawRow_17 rfl ?_
    refine pe_iload_n d_M_drawRow_18 rfl ?_
    refine pe_iload_n d_M_drawRow_19 rfl ?_
    refine pe_iadd d_M_drawRow_20 ?_
    refine pe_v1p d_M_drawRow_21 c_M_297 i_M_differs s_M_differs rfl rfl (y_M_differs1 hB (by omega) (by omega)) (fun z21 hz21 => ?_)
    refine pe_if_ne (t := 33) d_M_drawRow_24 (by first | exact hB _ _ | exact hB0 _ _ | exact hBt _ _ | exact ⟨by omega, by omega⟩) (fun h24 => ?_) (fun h24 => ?_)
    · skip
      refine pe_iload_n d_M_drawRow_33 rfl ?_
      refine pe_aload_n d_M_drawRow_34 rfl ?_
      refine pe_geti f_M_78 d_M_drawRow_35 rfl rfl 21 rfl ?_
      refine pe_icmp_ne (t := 42) d_M_drawRow_38 (by first | exact hB _ _ | exact hB0 _ _ | exact hBt _ _ | exact ⟨by omega, by omega⟩) (by first | exact hB _ _ | exact hB0 _ _ | exact hBt _ _ | exact ⟨by omega, by omega⟩) (fun h38 => ?_) (fun h38 => ?_)
      · skip
        refine pe_aload_n d_M_drawRow_42 rfl ?_
        refine pe_geti f_M_78 d_M_drawRow_43 rfl rfl 21 rfl ?_
        refine pe_iconst d_M_drawRow_46 ?_
        refine pe_isub d_M_drawRow_47 ?_
        refine pe_istore d_M_drawRow_48 ?_
        refine pe_aload_n d_M_drawRow_50 rfl ?_
        refine pe_iload_n d_M_drawRow_51 rfl ?_
        refine pe_iload d_M_drawRow_52 rfl ?_
        refine pe_iadd d_M_drawRow_54 ?_
        refine pe_v1p d_M_drawRow_55 c_M_297 i_M_differs s_M_differs rfl rfl (y_M_differs1 hB (by omega) (by omega)) (fun z55 hz55 => ?_)
        refine pe_if_ne (t := 67) d_M_drawRow_58 (by first | exact hB _ _ | exact hB0 _ _ | exact hBt _ _ | exact ⟨by omega, by omega⟩) (fun h58 => ?_) (fun h58 => ?_)
        · skip
          refine pe_aload_n d_M_drawRow_67 rfl ?_
          refine pe_getr f_M_50 d_M_drawRow_68 rfl rfl ?_
          refine pe_iload_n d_M_drawRow_71 rfl ?_
          refine pe_iload_n d_M_drawRow_72 rfl ?_
          refine pe_iadd d_M_drawRow_73 ?_
          refine pe_iald d_M_drawRow_74 rfl (by omega) (by omega) ?_
          refine pe_if_ne (t := 81) d_M_drawRow_75 (by first | exact hB _ _ | exact hB0 _ _ | exact hBt _ _ | exact ⟨by omega, by omega⟩) (fun h75 => ?_) (fun h75 => ?_)
          · skip
            refine pe_aload_n d_M_drawRow_81 rfl ?_
            refine pe_geti f_M_78 d_M_drawRow_82 rfl rfl 21 rfl ?_
            refine pe_istore d_M_drawRow_85 ?_
            refine pe_iload d_M_drawRow_87 rfl ?_
            refine pe_if_le (t := 128) d_M_drawRow_89 (by first | exact hB _ _ | exact hB0 _ _ | exact hBt _ _ | exact ⟨by omega, by omega⟩) (fun h89 => ?_) (fun h89 => ?_)
            · skip
              refine pe_iload_n d_M_drawRow_128 rfl ?_
              refine pe_iload d_M_drawRow_129 rfl ?_
              refine pe_icmp_le (t := 138) d_M_drawRow_131 (by first | exact hB _ _ | exact hB0 _ _ | exact hBt _ _ | exact ⟨by omega, by omega⟩) (by first | exact hB _ _ | exact hB0 _ _ | exact hBt _ _ | exact ⟨by omega, by omega⟩) (fun h131 => ?_) (fun h131 => ?_)
              · skip
                refine pe_iload d_M_drawRow_138 rfl ?_
                refine pe_istore d_M_drawRow_140 ?_
                refine pe_iload d_M_drawRow_142 rfl ?_
                refine pe_iload d_M_drawRow_144 rfl ?_
                refine pe_isub d_M_drawRow_146 ?_
                refine pe_iconst d_M_drawRow_147 ?_
                refine pe_iadd d_M_drawRow_148 ?_
                refine pe_iconst d_M_drawRow_149 ?_
                refine pe_icmp_gt (t := 162) d_M_drawRow_150 (by first | exact hB _ _ | exact hB0 _ _ | exact hBt _ _ | exact ⟨by omega, by omega⟩) (by first | exact hB _ _ | exact hB0 _ _ | exact hBt _ _ | exact ⟨by omega, by omega⟩) (fun h150 => ?_) (fun h150 => ?_)
                · skip
                  exfalso; omega
                · skip
                  refine pe_aload_n d_M_drawRow_153 rfl ?_
                  refine pe_iload_n d_M_drawRow_154 rfl ?_
                  refine pe_iload_n d_M_drawRow_155 rfl ?_
                  refine pe_iload d_M_drawRow_156 rfl ?_
                  refine pe_v3v d_M_drawRow_158 c_M_300 i_M_sendClusters s_M_sendClusters rfl rfl (y_M_sendClusters hB (by omega) (by omega) (by omega) (by omega) (by omega) (fun j h1 h2 => by have q := hs j h1 h2; omega) hu (by omega)) (fun σ158 hz158 => ?_)
                  obtain ⟨hB, f158, o158, x158⟩ := hz158
                  try have u158_0 : σ158 29 1 = σ 29 1 := by first | exact o158 1 (by decide) | exact congrFun (f158 29 (by decide)) 1
                  try have u158_1 : σ158 29 2 = σ 29 2 := by first | exact o158 2 (by decide) | exact congrFun (f158 29 (by decide)) 2
                  try have u158_2 : σ158 29 3 = σ 29 3 := by first | exact o158 3 (by decide) | exact congrFun (f158 29 (by decide)) 3
                  try have u158_3 : σ158 29 7 = σ 29 7 := by first | exact o158 7 (by decide) | exact congrFun (f158 29 (by decide)) 7
                  try have u158_4 : σ158 29 21 = σ 29 21 := by first | exact o158 21 (by decide) | exact congrFun (f158 29 (by decide)) 21
                  try have u158_5 : σ158 29 22 = σ 29 22 := by first | exact o158 22 (by decide) | exact congrFun (f158 29 (by decide)) 22
                  try have u158_6 : σ158 29 27 = σ 29 27 := by first | exact o158 27 (by decide) | exact congrFun (f158 29 (by decide)) 27
                  try have u158_7 : σ158 29 30 = σ 29 30 := by first | exact o158 30 (by decide) | exact congrFun (f158 29 (by decide)) 30
                  try have u158_8 : σ158 29 31 = σ 29 31 := by first | exact o158 31 (by decide) | exact congrFun (f158 29 (by decide)) 31
                  try have u158_9 : σ158 29 36 = σ 29 36 := by first | exact o158 36 (by decide) | exact congrFun (f158 29 (by decide)) 36
                  try have u158_10 : σ158 29 37 = σ 29 37 := by first | exact o158 37 (by decide) | exact congrFun (f158 29 (by decide)) 37
                  try have u158_11 : σ158 29 38 = σ 29 38 := by first | exact o158 38 (by decide) | exact congrFun (f158 29 (by decide)) 38
                  try have u158_12 : σ158 29 39 = σ 29 39 := by first | exact o158 39 (by decide) | exact congrFun (f158 29 (by decide)) 39
                  try have u158_13 : σ158 29 40 = σ 29 40 := by first | exact o158 40 (by decide) | exact congrFun (f158 29 (by decide)) 40
                  try have u158_14 : σ158 29 41 = σ 29 41 := by first | exact o158 41 (by decide) | exact congrFun (f158 29 (by decide)) 41
                  try have u158_15 : σ158 29 43 = σ 29 43 := by first | exact o158 43 (by decide) | exact congrFun (f158 29 (by decide)) 43
                  refine pe_rv d_M_drawRow_161 ?_
                  first | (exfalso; omega) | exact ⟨hB, (fun b hb => (f158 b (by simp at hb ⊢; try omega)).trans (rfl)), (fun j hj => (o158 j (by simp at hj ⊢; try omega)).trans (rfl)), x158⟩
              · skip
                exfalso; omega
            · skip
              refine pe_aload_n d_M_drawRow_92 rfl ?_
              refine pe_getr f_M_50 d_M_drawRow_93 rfl rfl ?_
              refine pe_iload_n d_M_drawRow_96 rfl ?_
              refine pe_iload d_M_drawRow_97 rfl ?_
              refine pe_iadd d_M_drawRow_99 ?_
              refine pe_iconst d_M_drawRow_100 ?_
              refine pe_isub d_M_drawRow_101 ?_
              refine pe_iald d_M_drawRow_102 rfl (by omega) (by omega) ?_
              refine pe_bipush d_M_drawRow_103 ?_
              refine pe_icmp_ne (t := 128) d_M_drawRow_105 (by first | exact hB _ _ | exact hB0 _ _ | exact hBt _ _ | exact ⟨by omega, by omega⟩) (by first | exact hB _ _ | exact hB0 _ _ | exact hBt _ _ | exact ⟨by omega, by omega⟩) (fun h105 => ?_) (fun h105 => ?_)
              · skip
                refine pe_iload_n d_M_drawRow_128 rfl ?_
                refine pe_iload d_M_drawRow_129 rfl ?_
                refine pe_icmp_le (t := 138) d_M_drawRow_131 (by first | exact hB _ _ | exact hB0 _ _ | exact hBt _ _ | exact ⟨by omega, by omega⟩) (by first | exact hB _ _ | exact hB0 _ _ | exact hBt _ _ | exact ⟨by omega, by omega⟩) (fun h131 => ?_) (fun h131 => ?_)
                · skip
                  refine pe_iload d_M_drawRow_138 rfl ?_
                  refine pe_istore d_M_drawRow_140 ?_
                  refine pe_iload d_M_drawRow_142 rfl ?_
                  refine pe_iload d_M_drawRow_144 rfl ?_
                  refine pe_isub d_M_drawRow_146 ?_
                  refine pe_iconst d_M_drawRow_147 ?_
                  refine pe_iadd d_M_drawRow_148 ?_
                  refine pe_iconst d_M_drawRow_149 ?_
                  refine pe_icmp_gt (t := 162) d_M_drawRow_150 (by first | exact hB _ _ | exact hB0 _ _ | exact hBt _ _ | exact ⟨by omega, by omega⟩) (by first | exact hB _ _ | exact hB0 _ _ | exact hBt _ _ | exact ⟨by omega, by omega⟩) (fun h150 => ?_) (fun h150 => ?_)
                  · skip
                    exfalso; omega
                  · skip
                    refine pe_aload_n d_M_drawRow_153 rfl ?_
                    refine pe_iload_n d_M_drawRow_154 rfl ?_
                    refine pe_iload_n d_M_drawRow_155 rfl ?_
                    refine pe_iload d_M_drawRow_156 rfl ?_
                    refine pe_v3v d_M_drawRow_158 c_M_300 i_M_sendClusters s_M_sendClusters rfl rfl (y_M_sendClusters hB (by omega) (by omega) (by omega) (by omega) (by omega) (fun j h1 h2 => by have q := hs j h1 h2; omega) hu (by omega)) (fun σ158 hz158 => ?_)
                    obtain ⟨hB, f158, o158, x158⟩ := hz158
                    try have u158_0 : σ158 29 1 = σ 29 1 := by first | exact o158 1 (by decide) | exact congrFun (f158 29 (by decide)) 1
                    try have u158_1 : σ158 29 2 = σ 29 2 := by first | exact o158 2 (by decide) | exact congrFun (f158 29 (by decide)) 2
                    try have u158_2 : σ158 29 3 = σ 29 3 := by first | exact o158 3 (by decide) | exact congrFun (f158 29 (by decide)) 3
                    try have u158_3 : σ158 29 7 = σ 29 7 := by first | exact o158 7 (by decide) | exact congrFun (f158 29 (by decide)) 7
                    try have u158_4 : σ158 29 21 = σ 29 21 := by first | exact o158 21 (by decide) | exact congrFun (f158 29 (by decide)) 21
                    try have u158_5 : σ158 29 22 = σ 29 22 := by first | exact o158 22 (by decide) | exact congrFun (f158 29 (by decide)) 22
                    try have u158_6 : σ158 29 27 = σ 29 27 := by first | exact o158 27 (by decide) | exact congrFun (f158 29 (by decide)) 27
                    try have u158_7 : σ158 29 30 = σ 29 30 := by first | exact o158 30 (by decide) | exact congrFun (f158 29 (by decide)) 30
                    try have u158_8 : σ158 29 31 = σ 29 31 := by first | exact o158 31 (by decide) | exact congrFun (f158 29 (by decide)) 31
                    try have u158_9 : σ158 29 36 = σ 29 36 := by first | exact o158 36 (by decide) | exact congrFun (f158 29 (by decide)) 36
                    try have u158_10 : σ158 29 37 = σ 29 37 := by first | exact o158 37 (by decide) | exact congrFun (f158 29 (by decide)) 37
                    try have u158_11 : σ158 29 38 = σ 29 38 := by first | exact o158 38 (by decide) | exact congrFun (f158 29 (by decide)) 38
                    try have u158_12 : σ158 29 39 = σ 29 39 := by first | exact o158 39 (by decide) | exact congrFun (f158 29 (by decide)) 39
                    try have u158_13 : σ158 29 40 = σ 29 40 := by first | exact o158 40 (by decide) | exact congrFun (f158 29 (by decide)) 40
                    try have u158_14 : σ158 29 41 = σ 29 41 := by first | exact o158 41 (by decide) | exact congrFun (f158 29 (by decide)) 41
                    try have u158_15 : σ158 29 43 = σ 29 43 := by first | exact o158 43 (by decide) | exact congrFun (f158 29 (by decide)) 43
                    refine pe_rv d_M_drawRow_161 ?_
                    first | (exfalso; omega) | exact ⟨hB, (fun b hb => (f158 b (by simp at hb ⊢; try omega)).trans (rfl)), (fun j hj => (o158 j (by simp at hj ⊢; try omega)).trans (rfl)), x158⟩
                · skip
                  exfalso; omega
              · skip
                refine pe_aload_n d_M_drawRow_108 rfl ?_
                refine pe_getr f_M_53 d_M_drawRow_109 rfl rfl ?_
                refine pe_iload_n d_M_drawRow_112 rfl ?_
                refine pe_iload d_M_drawRow_113 rfl ?_
                refine pe_iadd d_M_drawRow_115 ?_
                refine pe_iconst d_M_drawRow_116 ?_
                refine pe_isub d_M_drawRow_117 ?_
                rw [ee]
                refine pe_iald d_M_drawRow_118 rfl (by omega) (by omega) ?_
                refine pe_if_ne (t := 128) d_M_drawRow_119 (by first | exact hB _ _ | exact hB0 _ _ | exact hBt _ _ | exact ⟨by omega, by omega⟩) (fun h119 => ?_) (fun h119 => ?_)
                · skip
                  refine pe_iload_n d_M_drawRow_128 rfl ?_
                  refine pe_iload d_M_drawRow_129 rfl ?_
                  refine pe_icmp_le (t := 138) d_M_drawRow_131 (by first | exact hB _ _ | exact hB0 _ _ | exact hBt _ _ | exact ⟨by omega, by omega⟩) (by first | exact hB _ _ | exact hB0 _ _ | exact hBt _ _ | exact ⟨by omega, by omega⟩) (fun h131 => ?_) (fun h131 => ?_)
                  · skip
                    refine pe_iload d_M_drawRow_138 rfl ?_
                    refine pe_istore d_M_drawRow_140 ?_
                    refine pe_iload d_M_drawRow_142 rfl ?_
                    refine pe_iload d_M_drawRow_144 rfl ?_
                    refine pe_isub d_M_drawRow_146 ?_
                    refine pe_iconst d_M_drawRow_147 ?_
                    refine pe_iadd d_M_drawRow_148 ?_
                    refine pe_iconst d_M_drawRow_149 ?_
                    refine pe_icmp_gt (t := 162) d_M_drawRow_150 (by first | exact hB _ _ | exact hB0 _ _ | exact hBt _ _ | exact ⟨by omega, by omega⟩) (by first | exact hB _ _ | exact hB0 _ _ | exact hBt _ _ | exact ⟨by omega, by omega⟩) (fun h150 => ?_) (fun h150 => ?_)
                    · skip
                      exfalso; omega
                    · skip
                      refine pe_aload_n d_M_drawRow_153 rfl ?_
                      refine pe_iload_n d_M_drawRow_154 rfl ?_
                      refine pe_iload_n d_M_drawRow_155 rfl ?_
                      refine pe_iload d_M_drawRow_156 rfl ?_
                      refine pe_v3v d_M_drawRow_158 c_M_300 i_M_sendClusters s_M_sendClusters rfl rfl (y_M_sendClusters hB (by omega) (by omega) (by omega) (by omega) (by omega) (fun j h1 h2 => by have q := hs j h1 h2; omega) hu (by omega)) (fun σ158 hz158 => ?_)
                      obtain ⟨hB, f158, o158, x158⟩ := hz158
                      try have u158_0 : σ158 29 1 = σ 29 1 := by first | exact o158 1 (by decide) | exact congrFun (f158 29 (by decide)) 1
                      try have u158_1 : σ158 29 2 = σ 29 2 := by first | exact o158 2 (by decide) | exact congrFun (f158 29 (by decide)) 2
                      try have u158_2 : σ158 29 3 = σ 29 3 := by first | exact o158 3 (by decide) | exact congrFun (f158 29 (by decide)) 3
                      try have u158_3 : σ158 29 7 = σ 29 7 := by first | exact o158 7 (by decide) | exact congrFun (f158 29 (by decide)) 7
                      try have u158_4 : σ158 29 21 = σ 29 21 := by first | exact o158 21 (by decide) | exact congrFun (f158 29 (by decide)) 21
                      try have u158_5 : σ158 29 22 = σ 29 22 := by first | exact o158 22 (by decide) | exact congrFun (f158 29 (by decide)) 22
                      try have u158_6 : σ158 29 27 = σ 29 27 := by first | exact o158 27 (by decide) | exact congrFun (f158 29 (by decide)) 27
                      try have u158_7 : σ158 29 30 = σ 29 30 := by first | exact o158 30 (by decide) | exact congrFun (f158 29 (by decide)) 30
                      try have u158_8 : σ158 29 31 = σ 29 31 := by first | exact o158 31 (by decide) | exact congrFun (f158 29 (by decide)) 31
                      try have u158_9 : σ158 29 36 = σ 29 36 := by first | exact o158 36 (by decide) | exact congrFun (f158 29 (by decide)) 36
                      try have u158_10 : σ158 29 37 = σ 29 37 := by first | exact o158 37 (by decide) | exact congrFun (f158 29 (by decide)) 37
                      try have u158_11 : σ158 29 38 = σ 29 38 := by first | exact o158 38 (by decide) | exact congrFun (f158 29 (by decide)) 38
                      try have u158_12 : σ158 29 39 = σ 29 39 := by first | exact o158 39 (by decide) | exact congrFun (f158 29 (by decide)) 39
                      try have u158_13 : σ158 29 40 = σ 29 40 := by first | exact o158 40 (by decide) | exact congrFun (f158 29 (by decide)) 40
                      try have u158_14 : σ158 29 41 = σ 29 41 := by first | exact o158 41 (by decide) | exact congrFun (f158 29 (by decide)) 41
                      try have u158_15 : σ158 29 43 = σ 29 43 := by first | exact o158 43 (by decide) | exact congrFun (f158 29 (by decide)) 43
                      refine pe_rv d_M_drawRow_161 ?_
                      first | (exfalso; omega) | exact ⟨hB, (fun b hb => (f158 b (by simp at hb ⊢; try omega)).trans (rfl)), (fun j hj => (o158 j (by simp at hj ⊢; try omega)).trans (rfl)), x158⟩
                  · skip
                    exfalso; omega
                · skip
                  exfalso; omega
          · skip
            exfalso; omega
        · skip
          exfalso; omega
      · skip
        exfalso; omega
    · skip
      exfalso; omega
