def pe_DW (m d : Int → Int) : Prop := (∀ j, 0 ≤ j → j < 192 → 0 ≤ d j) ∧ (∀ r, 0 ≤ r → r < m 22 → d (m 21 * r) % 65536 ≠ 0) ∧ ∀ r c, 0 ≤ r → r < m 22 → 0 ≤ c → c < m 21 → pe_wi (d (m 21 * r + c) % 65536) → c + 1 < m 21
theorem pe_DW_to {m m' d d' : Int → Int} (q : pe_DW m d) (e1 : m' 21 = m 21) (e2 : m' 22 = m 22) (e3 : d' = d) : pe_DW m' d' := by
  subst e3
  unfold pe_DW
  rw [e1, e2]
  exact q
theorem pe_mnw {k : Int} (h : k < 11904) : ¬ pe_wi k := by unfold pe_wi; omega
set_option maxHeartbeats 1000000 in
theorem t_M_sendCluster {σ : pe_H} {r c : Int} (hB : pe_B σ) (hW : 1 ≤ σ 29 21 ∧ σ 29 21 ≤ 24 ∧ 1 ≤ σ 29 22 ∧ σ 29 22 ≤ 8) (hp : 0 ≤ σ 29 36 ∧ σ 29 36 < σ 29 22 ∧ 0 ≤ σ 29 37 ∧ σ 29 37 < σ 29 21 ∧ -1 ≤ σ 29 40 ∧ σ 29 40 < 192) (hs : 0 ≤ σ 29 43 ∧ σ 29 43 + 23 ≤ 6000) (hS : pe_SW (σ 29) (σ 42)) (hD : pe_DW (σ 29) (σ 40)) (hr : 0 ≤ r ∧ r < σ 29 22) (hc : 0 ≤ c ∧ c < σ 29 21) : pe_M m_M_sendCluster [pe_r 29, pe_i r, pe_i c] σ (pe_qv (fun σ' => pe_B σ' ∧ (∀ b, b ∉ [29, 42, 43, 46] → σ' b = σ b) ∧ (∀ j, j ∉ ([36, 37, 38, 39, 40, 43] : List Int) → σ' 29 j = σ 29 j) ∧ pe_SW (σ' 29) (σ' 42) ∧ (0 ≤ σ' 29 36 ∧ σ' 29 36 < σ 29 22 ∧ 0 ≤ σ' 29 37 ∧ σ' 29 37 < σ 29 21 ∧ -1 ≤ σ' 29 40 ∧ σ' 29 40 < 192) ∧ (σ 29 43 ≤ σ' 29 43 ∧ σ' 29 43 ≤ σ 29 43 + 23))) := by
  refine pe_in0 (lv := [some (pe_r 29), some (pe_i r), some (pe_i c), none, none, none, none, none]) ?_
  have hB0 := hB
  have ix := pe_ix (W := σ 29 21) (H := σ 29 22) (r := r) (c := c) (by omega) (by omega) (by omega) (by omega)
  have hd0 := hD.1 (σ 29 21 * r + c) (by omega) (by omega)
  have hd1 := hB 40 (σ 29 21 * r + c)
  have hdw := hD.2.2 r c (by omega) (by omega) (by omega) (by omega)
  have hdz : σ 40 (σ 29 21 * r + c) % 65536 ≠ 0 ∨ 1 ≤ c := by
    by_cases e : c = 0
    · left; rw [e, Int.add_zero]; exact hD.2.1 r (by omega) (by omega)
    · right; omega
  refine pe_aload_n d_M_sendCluster_0 rfl ?_
  refine pe_geti f_M_78 d_M_sendCluster_1 rfl rfl 21 rfl ?_
  refine pe_iload_n d_M_sendCluster_4 rfl ?_
  refine pe_imul d_M_sendCluster_5 ?_
  refine pe_iload_n d_M_sendCluster_6 rfl ?_
  refine pe_iadd d_M_sendCluster_7 ?_
  refine pe_istore_n d_M_sendCluster_8 ?_
  refine pe_aload_n d_M_sendCluster_9 rfl ?_
  refine pe_getr f_M_50 d_M_sendCluster_10 rfl rfl ?_
  refine pe_iload_n d_M_sendCluster_13 rfl ?_
  refine pe_iald d_M_sendCluster_14 rfl (by omega) (by omega) ?_
  refine pe_istore d_M_sendCluster_15 ?_
  refine pe_iload d_M_sendCluster_17 rfl ?_
  refine pe_ldcw q_M_256 d_M_sendCluster_19 (z := 65535) rfl ?_
  refine pe_iand d_M_sendCluster_22 (pe_and 16 65536 (by omega) (by omega)) ?_
  refine pe_istore d_M_sendCluster_23 ?_
  refine pe_iload d_M_sendCluster_25 rfl ?_
  refine pe_bipush d_M_sendCluster_27 ?_
  refine pe_ishr d_M_sendCluster_29 (pe_shr 16 65536 (by omega) (by omega)) ?_
  refine pe_bipush d_M_sendCluster_30 ?_
  refine pe_iand d_M_sendCluster_32 (pe_and 7 128 (by omega) (by omega)) ?_
  refine pe_istore d_M_sendCluster_33 ?_
  refine pe_iload d_M_sendCluster_35 rfl ?_
  refine pe_bipush d_M_sendCluster_37 ?_
  refine pe_ishr d_M_sendCluster_39 (pe_shr 23 8388608 (by omega) (by omega)) ?_
  refine pe_istore d_M_sendCluster_40 ?_
  refine pe_aload_n d_M_sendCluster_42 rfl ?_
  refine pe_iload_n d_M_sendCluster_43 rfl ?_
  refine pe_iload_n d_M_sendCluster_44 rfl ?_
  refine pe_iload d_M_sendCluster_45 rfl ?_
  refine pe_s1p d_M_sendCluster_47 c_M_90 z_M_isMark (t_M_isMark (by first | exact hB _ _ | exact hB0 _ _ | exact hBt _ _ | exact ⟨by omega, by omega⟩)) (fun z47 hz47 => ?_)
  refine pe_v3v d_M_sendCluster_50 c_M_284 i_M_go s_M_go rfl rfl (t_M_go hB (by omega) (by omega) (by omega) (by omega) (by omega) (by first | exact hB _ _ | exact hB0 _ _ | exact hBt _ _ | exact ⟨by omega, by omega⟩)) (fun σ50 hz50 => ?_)
  obtain ⟨hB, f50, o50, x50⟩ := hz50
  try have u50_0 : σ50 29 21 = σ 29 21 := by first | exact o50 21 (by decide) | exact congrFun (f50 29 (by decide)) 21
  try have u50_1 : σ50 29 22 = σ 29 22 := by first | exact o50 22 (by decide) | exact congrFun (f50 29 (by decide)) 22
  try have u50_2 : σ50 29 36 = σ 29 36 := by first | exact o50 36 (by decide) | exact congrFun (f50 29 (by decide)) 36
  try have u50_3 : σ50 29 37 = σ 29 37 := by first | exact o50 37 (by decide) | exact congrFun (f50 29 (by decide)) 37
  try have u50_4 : σ50 29 38 = σ 29 38 := by first | exact o50 38 (by decide) | exact congrFun (f50 29 (by decide)) 38
  try have u50_5 : σ50 29 39 = σ 29 39 := by first | exact o50 39 (by decide) | exact congrFun (f50 29 (by decide)) 39
  try have u50_6 : σ50 29 40 = σ 29 40 := by first | exact o50 40 (by decide) | exact congrFun (f50 29 (by decide)) 40
  try have u50_7 : σ50 29 43 = σ 29 43 := by first | exact o50 43 (by decide) | exact congrFun (f50 29 (by decide)) 43
  refine pe_aload_n d_M_sendCluster_53 rfl ?_
  refine pe_geti f_M_272 d_M_sendCluster_54 rfl rfl 39 rfl ?_
  refine pe_aload_n d_M_sendCluster_57 rfl ?_
  refine pe_getr f_M_53 d_M_sendCluster_58 rfl rfl ?_
  refine pe_iload_n d_M_sendCluster_61 rfl ?_
  refine pe_iald d_M_sendCluster_62 rfl (by omega) (by omega) ?_
  refine pe_icmp_eq (t := 76) d_M_sendCluster_63 (by first | exact hB _ _ | exact hB0 _ _ | exact hBt _ _ | exact ⟨by omega, by omega⟩) (by first | exact hB _ _ | exact hB0 _ _ | exact hBt _ _ | exact ⟨by omega, by omega⟩) (fun h63 => ?_) (fun h63 => ?_)
  · skip
    refine pe_aload_n d_M_sendCluster_76 rfl ?_
    refine pe_iload d_M_sendCluster_77 rfl ?_
    refine pe_v1v d_M_sendCluster_79 c_M_291 i_M_write s_M_write rfl rfl (t_M_write hB (by omega) (by omega) (by omega) (pe_SW_to hS (by omega) (by omega) ((f50 42 (by decide)).trans (rfl))) (by omega) (fun z => by have q := hdw z; omega) (by omega)) (fun σ79 hz79 => ?_)
    obtain ⟨hB, f79, o79, x79⟩ := hz79
    try have u79_0 : σ79 29 21 = σ50 29 21 := by first | exact o79 21 (by decide) | exact congrFun (f79 29 (by decide)) 21
    try have u79_1 : σ79 29 22 = σ50 29 22 := by first | exact o79 22 (by decide) | exact congrFun (f79 29 (by decide)) 22
    try have u79_2 : σ79 29 36 = σ50 29 36 := by first | exact o79 36 (by decide) | exact congrFun (f79 29 (by decide)) 36
    try have u79_3 : σ79 29 37 = σ50 29 37 := by first | exact o79 37 (by decide) | exact congrFun (f79 29 (by decide)) 37
    try have u79_4 : σ79 29 38 = σ50 29 38 := by first | exact o79 38 (by decide) | exact congrFun (f79 29 (by decide)) 38
    try have u79_5 : σ79 29 39 = σ50 29 39 := by first | exact o79 39 (by decide) | exact congrFun (f79 29 (by decide)) 39
    try have u79_6 : σ79 29 40 = σ50 29 40 := by first | exact o79 40 (by decide) | exact congrFun (f79 29 (by decide)) 40
    try have u79_7 : σ79 29 43 = σ50 29 43 := by first | exact o79 43 (by decide) | exact congrFun (f79 29 (by decide)) 43
    have hS8 := x79.1
    refine pe_iload d_M_sendCluster_82 rfl ?_
    refine pe_if_le (t := 97) d_M_sendCluster_84 (by first | exact hB _ _ | exact hB0 _ _ | exact hBt _ _ | exact ⟨by omega, by omega⟩) (fun h84 => ?_) (fun h84 => ?_)
    · skip
      refine pe_iload d_M_sendCluster_97 rfl ?_
      refine pe_if_le (t := 112) d_M_sendCluster_99 (by first | exact hB _ _ | exact hB0 _ _ | exact hBt _ _ | exact ⟨by omega, by omega⟩) (fun h99 => ?_) (fun h99 => ?_)
      · skip
        refine pe_rv d_M_sendCluster_112 ?_
        exact ⟨hB, (fun b hb => (f79 b (by simp at hb ⊢; try omega)).trans ((f50 b (by simp at hb ⊢; try omega)).trans (rfl))), (fun j hj => (o79 j (by simp at hj ⊢; try omega)).trans ((o50 j (by simp at hj ⊢; try omega)).trans (rfl))), hS8, by omega, by omega⟩
      · skip
        refine pe_aload_n d_M_sendCluster_102 rfl ?_
        refine pe_sipush d_M_sendCluster_103 ?_
        refine pe_iload d_M_sendCluster_106 rfl ?_
        refine pe_iadd d_M_sendCluster_108 ?_
        refine pe_v1v d_M_sendCluster_109 c_M_291 i_M_write s_M_write rfl rfl (t_M_write hB (by omega) (by omega) (by omega) hS8 (by omega) (fun z => absurd z (pe_mnw (by omega))) (by omega)) (fun σ109 hz109 => ?_)
        obtain ⟨hB, f109, o109, x109⟩ := hz109
        try have u109_0 : σ109 29 21 = σ79 29 21 := by first | exact o109 21 (by decide) | exact congrFun (f109 29 (by decide)) 21
        try have u109_1 : σ109 29 22 = σ79 29 22 := by first | exact o109 22 (by decide) | exact congrFun (f109 29 (by decide)) 22
        try have u109_2 : σ109 29 36 = σ79 29 36 := by first | exact o109 36 (by decide) | exact congrFun (f109 29 (by decide)) 36
        try have u109_3 : σ109 29 37 = σ79 29 37 := by first | exact o109 37 (by decide) | exact congrFun (f109 29 (by decide)) 37
        try have u109_4 : σ109 29 38 = σ79 29 38 := by first | exact o109 38 (by decide) | exact congrFun (f109 29 (by decide)) 38
        try have u109_5 : σ109 29 39 = σ79 29 39 := by first | exact o109 39 (by decide) | exact congrFun (f109 29 (by decide)) 39
        try have u109_6 : σ109 29 40 = σ79 29 40 := by first | exact o109 40 (by decide) | exact congrFun (f109 29 (by decide)) 40
        try have u109_7 : σ109 29 43 = σ79 29 43 := by first | exact o109 43 (by decide) | exact congrFun (f109 29 (by decide)) 43
        have hS8 := x109.1
        refine pe_rv d_M_sendCluster_112 ?_
        exact ⟨hB, (fun b hb => (f109 b (by simp at hb ⊢; try omega)).trans ((f79 b (by simp at hb ⊢; try omega)).trans ((f50 b (by simp at hb ⊢; try omega)).trans (rfl)))), (fun j hj => (o109 j (by simp at hj ⊢; try omega)).trans ((o79 j (by simp at hj ⊢; try omega)).trans ((o50 j (by simp at hj ⊢; try omega)).trans (rfl)))), hS8, by omega, by omega⟩
    · skip
      refine pe_aload_n d_M_sendCluster_87 rfl ?_
      refine pe_sipush d_M_sendCluster_88 ?_
      refine pe_iload d_M_sendCluster_91 rfl ?_
      refine pe_iadd d_M_sendCluster_93 ?_
      refine pe_v1v d_M_sendCluster_94 c_M_291 i_M_write s_M_write rfl rfl (t_M_write hB (by omega) (by omega) (by omega) hS8 (by omega) (fun z => absurd z (pe_mnw (by omega))) (by omega)) (fun σ94 hz94 => ?_)
      obtain ⟨hB, f94, o94, x94⟩ := hz94
      try have u94_0 : σ94 29 21 = σ79 29 21 := by first | exact o94 21 (by decide) | exact congrFun (f94 29 (by decide)) 21
      try have u94_1 : σ94 29 22 = σ79 29 22 := by first | exact o94 22 (by decide) | exact congrFun (f94 29 (by decide)) 22
      try have u94_2 : σ94 29 36 = σ79 29 36 := by first | exact o94 36 (by decide) | exact congrFun (f94 29 (by decide)) 36
      try have u94_3 : σ94 29 37 = σ79 29 37 := by first | exact o94 37 (by decide) | exact congrFun (f94 29 (by decide)) 37
      try have u94_4 : σ94 29 38 = σ79 29 38 := by first | exact o94 38 (by decide) | exact congrFun (f94 29 (by decide)) 38
      try have u94_5 : σ94 29 39 = σ79 29 39 := by first | exact o94 39 (by decide) | exact congrFun (f94 29 (by decide)) 39
      try have u94_6 : σ94 29 40 = σ79 29 40 := by first | exact o94 40 (by decide) | exact congrFun (f94 29 (by decide)) 40
      try have u94_7 : σ94 29 43 = σ79 29 43 := by first | exact o94 43 (by decide) | exact congrFun (f94 29 (by decide)) 43
      have hS8 := x94.1
      refine pe_iload d_M_sendCluster_97 rfl ?_
      refine pe_if_le (t := 112) d_M_sendCluster_99 (by first | exact hB _ _ | exact hB0 _ _ | exact hBt _ _ | exact ⟨by omega, by omega⟩) (fun h99 => ?_) (fun h99 => ?_)
      · skip
        refine pe_rv d_M_sendCluster_112 ?_
        exact ⟨hB, (fun b hb => (f94 b (by simp at hb ⊢; try omega)).trans ((f79 b (by simp at hb ⊢; try omega)).trans ((f50 b (by simp at hb ⊢; try omega)).trans (rfl)))), (fun j hj => (o94 j (by simp at hj ⊢; try omega)).trans ((o79 j (by simp at hj ⊢; try omega)).trans ((o50 j (by simp at hj ⊢; try omega)).trans (rfl)))), hS8, by omega, by omega⟩
      · skip
        refine pe_aload_n d_M_sendCluster_102 rfl ?_
        refine pe_sipush d_M_sendCluster_103 ?_
        refine pe_iload d_M_sendCluster_106 rfl ?_
        refine pe_iadd d_M_sendCluster_108 ?_
        refine pe_v1v d_M_sendCluster_109 c_M_291 i_M_write s_M_write rfl rfl (t_M_write hB (by omega) (by omega) (by omega) hS8 (by omega) (fun z => absurd z (pe_mnw (by omega))) (by omega)) (fun σ109 hz109 => ?_)
        obtain ⟨hB, f109, o109, x109⟩ := hz109
        try have u109_0 : σ109 29 21 = σ94 29 21 := by first | exact o109 21 (by decide) | exact congrFun (f109 29 (by decide)) 21
        try have u109_1 : σ109 29 22 = σ94 29 22 := by first | exact o109 22 (by decide) | exact congrFun (f109 29 (by decide)) 22
        try have u109_2 : σ109 29 36 = σ94 29 36 := by first | exact o109 36 (by decide) | exact congrFun (f109 29 (by decide)) 36
        try have u109_3 : σ109 29 37 = σ94 29 37 := by first | exact o109 37 (by decide) | exact congrFun (f109 29 (by decide)) 37
        try have u109_4 : σ109 29 38 = σ94 29 38 := by first | exact o109 38 (by decide) | exact congrFun (f109 29 (by decide)) 38
        try have u109_5 : σ109 29 39 = σ94 29 39 := by first | exact o109 39 (by decide) | exact congrFun (f109 29 (by decide)) 39
        try have u109_6 : σ109 29 40 = σ94 29 40 := by first | exact o109 40 (by decide) | exact congrFun (f109 29 (by decide)) 40
        try have u109_7 : σ109 29 43 = σ94 29 43 := by first | exact o109 43 (by decide) | exact congrFun (f109 29 (by decide)) 43
        have hS8 := x109.1
        refine pe_rv d_M_sendCluster_112 ?_
        exact ⟨hB, (fun b hb => (f109 b (by simp at hb ⊢; try omega)).trans ((f94 b (by simp at hb ⊢; try omega)).trans ((f79 b (by simp at hb ⊢; try omega)).trans ((f50 b (by simp at hb ⊢; try omega)).trans (rfl))))), (fun j hj => (o109 j (by simp at hj ⊢; try omega)).trans ((o94 j (by simp at hj ⊢; try omega)).trans ((o79 j (by simp at hj ⊢; try omega)).trans ((o50 j (by simp at hj ⊢; try omega)).trans (rfl))))), hS8, by omega, by omega⟩
  · skip
    refine pe_aload_n d_M_sendCluster_66 rfl ?_
    refine pe_aload_n d_M_sendCluster_67 rfl ?_
    refine pe_getr f_M_53 d_M_sendCluster_68 rfl rfl ?_
    refine pe_iload_n d_M_sendCluster_71 rfl ?_
    refine pe_iald d_M_sendCluster_72 rfl (by omega) (by omega) ?_
    refine pe_v1v d_M_sendCluster_73 c_M_288 i_M_setLook s_M_setLook rfl rfl (t_M_setLook hB (by omega) (by first | exact hB _ _ | exact hB0 _ _ | exact hBt _ _ | exact ⟨by omega, by omega⟩)) (fun σ73 hz73 => ?_)
    obtain ⟨hB, f73, o73, x73⟩ := hz73
    try have u73_0 : σ73 29 21 = σ50 29 21 := by first | exact o73 21 (by decide) | exact congrFun (f73 29 (by decide)) 21
    try have u73_1 : σ73 29 22 = σ50 29 22 := by first | exact o73 22 (by decide) | exact congrFun (f73 29 (by decide)) 22
    try have u73_2 : σ73 29 36 = σ50 29 36 := by first | exact o73 36 (by decide) | exact congrFun (f73 29 (by decide)) 36
    try have u73_3 : σ73 29 37 = σ50 29 37 := by first | exact o73 37 (by decide) | exact congrFun (f73 29 (by decide)) 37
    try have u73_4 : σ73 29 38 = σ50 29 38 := by first | exact o73 38 (by decide) | exact congrFun (f73 29 (by decide)) 38
    try have u73_5 : σ73 29 39 = σ50 29 39 := by first | exact o73 39 (by decide) | exact congrFun (f73 29 (by decide)) 39
    try have u73_6 : σ73 29 40 = σ50 29 40 := by first | exact o73 40 (by decide) | exact congrFun (f73 29 (by decide)) 40
    try have u73_7 : σ73 29 43 = σ50 29 43 := by first | exact o73 43 (by decide) | exact congrFun (f73 29 (by decide)) 43
    refine pe_aload_n d_M_sendCluster_76 rfl ?_
    refine pe_iload d_M_sendCluster_77 rfl ?_
    refine pe_v1v d_M_sendCluster_79 c_M_291 i_M_write s_M_write rfl rfl (t_M_write hB (by omega) (by omega) (by omega) (pe_SW_to hS (by omega) (by omega) ((f73 42 (by decide)).trans ((f50 42 (by decide)).trans (rfl)))) (by omega) (fun z => by have q := hdw z; omega) (by omega)) (fun σ79 hz79 => ?_)
    obtain ⟨hB, f79, o79, x79⟩ := hz79
    try have u79_0 : σ79 29 21 = σ73 29 21 := by first | exact o79 21 (by decide) | exact congrFun (f79 29 (by decide)) 21
    try have u79_1 : σ79 29 22 = σ73 29 22 := by first | exact o79 22 (by decide) | exact congrFun (f79 29 (by decide)) 22
    try have u79_2 : σ79 29 36 = σ73 29 36 := by first | exact o79 36 (by decide) | exact congrFun (f79 29 (by decide)) 36
    try have u79_3 : σ79 29 37 = σ73 29 37 := by first | exact o79 37 (by decide) | exact congrFun (f79 29 (by decide)) 37
    try have u79_4 : σ79 29 38 = σ73 29 38 := by first | exact o79 38 (by decide) | exact congrFun (f79 29 (by decide)) 38
    try have u79_5 : σ79 29 39 = σ73 29 39 := by first | exact o79 39 (by decide) | exact congrFun (f79 29 (by decide)) 39
    try have u79_6 : σ79 29 40 = σ73 29 40 := by first | exact o79 40 (by decide) | exact congrFun (f79 29 (by decide)) 40
    try have u79_7 : σ79 29 43 = σ73 29 43 := by first | exact o79 43 (by decide) | exact congrFun (f79 29 (by decide)) 43
    have hS8 := x79.1
    refine pe_iload d_M_sendCluster_82 rfl ?_
    refine pe_if_le (t := 97) d_M_sendCluster_84 (by first | exact hB _ _ | exact hB0 _ _ | exact hBt _ _ | exact ⟨by omega, by omega⟩) (fun h84 => ?_) (fun h84 => ?_)
    · skip
      refine pe_iload d_M_sendCluster_97 rfl ?_
      refine pe_if_le (t := 112) d_M_sendCluster_99 (by first | exact hB _ _ | exact hB0 _ _ | exact hBt _ _ | exact ⟨by omega, by omega⟩) (fun h99 => ?_) (fun h99 => ?_)
      · skip
        refine pe_rv d_M_sendCluster_112 ?_
        exact ⟨hB, (fun b hb => (f79 b (by simp at hb ⊢; try omega)).trans ((f73 b (by simp at hb ⊢; try omega)).trans ((f50 b (by simp at hb ⊢; try omega)).trans (rfl)))), (fun j hj => (o79 j (by simp at hj ⊢; try omega)).trans ((o73 j (by simp at hj ⊢; try omega)).trans ((o50 j (by simp at hj ⊢; try omega)).trans (rfl)))), hS8, by omega, by omega⟩
      · skip
        refine pe_aload_n d_M_sendCluster_102 rfl ?_
        refine pe_sipush d_M_sendCluster_103 ?_
        refine pe_iload d_M_sendCluster_106 rfl ?_
        refine pe_iadd d_M_sendCluster_108 ?_
        refine pe_v1v d_M_sendCluster_109 c_M_291 i_M_write s_M_write rfl rfl (t_M_write hB (by omega) (by omega) (by omega) hS8 (by omega) (fun z => absurd z (pe_mnw (by omega))) (by omega)) (fun σ109 hz109 => ?_)
        obtain ⟨hB, f109, o109, x109⟩ := hz109
        try have u109_0 : σ109 29 21 = σ79 29 21 := by first | exact o109 21 (by decide) | exact congrFun (f109 29 (by decide)) 21
        try have u109_1 : σ109 29 22 = σ79 29 22 := by first | exact o109 22 (by decide) | exact congrFun (f109 29 (by decide)) 22
        try have u109_2 : σ109 29 36 = σ79 29 36 := by first | exact o109 36 (by decide) | exact congrFun (f109 29 (by decide)) 36
        try have u109_3 : σ109 29 37 = σ79 29 37 := by first | exact o109 37 (by decide) | exact congrFun (f109 29 (by decide)) 37
        try have u109_4 : σ109 29 38 = σ79 29 38 := by first | exact o109 38 (by decide) | exact congrFun (f109 29 (by decide)) 38
        try have u109_5 : σ109 29 39 = σ79 29 39 := by first | exact o109 39 (by decide) | exact congrFun (f109 29 (by decide)) 39
        try have u109_6 : σ109 29 40 = σ79 29 40 := by first | exact o109 40 (by decide) | exact congrFun (f109 29 (by decide)) 40
        try have u109_7 : σ109 29 43 = σ79 29 43 := by first | exact o109 43 (by decide) | exact congrFun (f109 29 (by decide)) 43
        have hS8 := x109.1
        refine pe_rv d_M_sendCluster_112 ?_
        exact ⟨hB, (fun b hb => (f109 b (by simp at hb ⊢; try omega)).trans ((f79 b (by simp at hb ⊢; try omega)).trans ((f73 b (by simp at hb ⊢; try omega)).trans ((f50 b (by simp at hb ⊢; try omega)).trans (rfl))))), (fun j hj => (o109 j (by simp at hj ⊢; try omega)).trans ((o79 j (by simp at hj ⊢; try omega)).trans ((o73 j (by simp at hj ⊢; try omega)).trans ((o50 j (by simp at hj ⊢; try omega)).trans (rfl))))), hS8, by omega, by omega⟩
    · skip
      refine pe_aload_n d_M_sendCluster_87 rfl ?_
      refine pe_sipush d_M_sendCluster_88 ?_
      refine pe_iload d_M_sendCluster_91 rfl ?_
      refine pe_iadd d_M_sendCluster_93 ?_
      refine pe_v1v d_M_sendCluster_94 c_M_291 i_M_write s_M_write rfl rfl (t_M_write hB (by omega) (by omega) (by omega) hS8 (by omega) (fun z => absurd z (pe_mnw (by omega))) (by omega)) (fun σ94 hz94 => ?_)
      obtain ⟨hB, f94, o94, x94⟩ := hz94
      try have u94_0 : σ94 29 21 = σ79 29 21 := by first | exact o94 21 (by decide) | exact congrFun (f94 29 (by decide)) 21
      try have u94_1 : σ94 29 22 = σ79 29 22 := by first | exact o94 22 (by decide) | exact congrFun (f94 29 (by decide)) 22
      try have u94_2 : σ94 29 36 = σ79 29 36 := by first | exact o94 36 (by decide) | exact congrFun (f94 29 (by decide)) 36
      try have u94_3 : σ94 29 37 = σ79 29 37 := by first | exact o94 37 (by decide) | exact congrFun (f94 29 (by decide)) 37
      try have u94_4 : σ94 29 38 = σ79 29 38 := by first | exact o94 38 (by decide) | exact congrFun (f94 29 (by decide)) 38
      try have u94_5 : σ94 29 39 = σ79 29 39 := by first | exact o94 39 (by decide) | exact congrFun (f94 29 (by decide)) 39
      try have u94_6 : σ94 29 40 = σ79 29 40 := by first | exact o94 40 (by decide) | exact congrFun (f94 29 (by decide)) 40
      try have u94_7 : σ94 29 43 = σ79 29 43 := by first | exact o94 43 (by decide) | exact congrFun (f94 29 (by decide)) 43
      have hS8 := x94.1
      refine pe_iload d_M_sendCluster_97 rfl ?_
      refine pe_if_le (t := 112) d_M_sendCluster_99 (by first | exact hB _ _ | exact hB0 _ _ | exact hBt _ _ | exact ⟨by omega, by omega⟩) (fun h99 => ?_) (fun h99 => ?_)
      · skip
        refine pe_rv d_M_sendCluster_112 ?_
        exact ⟨hB, (fun b hb => (f94 b (by simp at hb ⊢; try omega)).trans ((f79 b (by simp at hb ⊢; try omega)).trans ((f73 b (by simp at hb ⊢; try omega)).trans ((f50 b (by simp at hb ⊢; try omega)).trans (rfl))))), (fun j hj => (o94 j (by simp at hj ⊢; try omega)).trans ((o79 j (by simp at hj ⊢; try omega)).trans ((o73 j (by simp at hj ⊢; try omega)).trans ((o50 j (by simp at hj ⊢; try omega)).trans (rfl))))), hS8, by omega, by omega⟩
      · skip
        refine pe_aload_n d_M_sendCluster_102 rfl ?_
        refine pe_sipush d_M_sendCluster_103 ?_
        refine pe_iload d_M_sendCluster_106 rfl ?_
        refine pe_iadd d_M_sendCluster_108 ?_
        refine pe_v1v d_M_sendCluster_109 c_M_291 i_M_write s_M_write rfl rfl (t_M_write hB (by omega) (by omega) (by omega) hS8 (by omega) (fun z => absurd z (pe_mnw (by omega))) (by omega)) (fun σ109 hz109 => ?_)
        obtain ⟨hB, f109, o109, x109⟩ := hz109
        try have u109_0 : σ109 29 21 = σ94 29 21 := by first | exact o109 21 (by decide) | exact congrFun (f109 29 (by decide)) 21
        try have u109_1 : σ109 29 22 = σ94 29 22 := by first | exact o109 22 (by decide) | exact congrFun (f109 29 (by decide)) 22
        try have u109_2 : σ109 29 36 = σ94 29 36 := by first | exact o109 36 (by decide) | exact congrFun (f109 29 (by decide)) 36
        try have u109_3 : σ109 29 37 = σ94 29 37 := by first | exact o109 37 (by decide) | exact congrFun (f109 29 (by decide)) 37
        try have u109_4 : σ109 29 38 = σ94 29 38 := by first | exact o109 38 (by decide) | exact congrFun (f109 29 (by decide)) 38
        try have u109_5 : σ109 29 39 = σ94 29 39 := by first | exact o109 39 (by decide) | exact congrFun (f109 29 (by decide)) 39
        try have u109_6 : σ109 29 40 = σ94 29 40 := by first | exact o109 40 (by decide) | exact congrFun (f109 29 (by decide)) 40
        try have u109_7 : σ109 29 43 = σ94 29 43 := by first | exact o109 43 (by decide) | exact congrFun (f109 29 (by decide)) 43
        have hS8 := x109.1
        refine pe_rv d_M_sendCluster_112 ?_
        exact ⟨hB, (fun b hb => (f109 b (by simp at hb ⊢; try omega)).trans ((f94 b (by simp at hb ⊢; try omega)).trans ((f79 b (by simp at hb ⊢; try omega)).trans ((f73 b (by simp at hb ⊢; try omega)).trans ((f50 b (by simp at hb ⊢; try omega)).trans (rfl)))))), (fun j hj => (o109 j (by simp at hj ⊢; try omega)).trans ((o94 j (by simp at hj ⊢; try omega)).trans ((o79 j (by simp at hj ⊢; try omega)).trans ((o73 j (by simp at hj ⊢; try omega)).trans ((o50 j (by simp at hj ⊢; try omega)).trans (rfl)))))), hS8, by omega, by omega⟩
theorem t_M_sendClusters {σ : pe_H} {r f t : Int} (hB : pe_B σ) (hW : 1 ≤ σ 29 21 ∧ σ 29 21 ≤ 24 ∧ 1 ≤ σ 29 22 ∧ σ 29 22 ≤ 8) (hp : 0 ≤ σ 29 36 ∧ σ 29 36 < σ 29 22 ∧ 0 ≤ σ 29 37 ∧ σ 29 37 < σ 29 21 ∧ -1 ≤ σ 29 40 ∧ σ 29 40 < 192) (hs : 0 ≤ σ 29 43 ∧ σ 29 43 + 600 ≤ 6000) (hS : pe_SW (σ 29) (σ 42)) (hD : pe_DW (σ 29) (σ 40)) (hr : 0 ≤ r ∧ r < σ 29 22) (hf : 0 ≤ f ∧ f ≤ 24) (ht : t < σ 29 21 ∧ -2 ≤ t) : pe_M m_M_sendClusters [pe_r 29, pe_i r, pe_i f, pe_i t] σ (pe_qv (fun σ' => pe_B σ' ∧ (∀ b, b ∉ [29, 42, 43, 46] → σ' b = σ b) ∧ (∀ j, j ∉ ([36, 37, 38, 39, 40, 43] : List Int) → σ' 29 j = σ 29 j) ∧ pe_SW (σ' 29) (σ' 42) ∧ (0 ≤ σ' 29 36 ∧ σ' 29 36 < σ 29 22 ∧ 0 ≤ σ' 29 37 ∧ σ' 29 37 < σ 29 21 ∧ -1 ≤ σ' 29 40 ∧ σ' 29 40 < 192) ∧ (σ 29 43 ≤ σ' 29 43 ∧ σ' 29 43 ≤ σ 29 43 + 600))) := by
  refine pe_in0 (lv := [some (pe_r 29), some (pe_i r), some (pe_i f), some (pe_i t), none]) ?_
  have hB0 := hB
  have J3 : ∀ x : Int × pe_H, (pe_B x.2 ∧ (∀ b, b ∉ [29, 42, 43, 46] → x.2 b = σ b) ∧ (∀ j, j ∉ ([36, 37, 38, 39, 40, 43] : List Int) → x.2 29 j = σ 29 j) ∧ pe_SW (x.2 29) (x.2 42) ∧ (0 ≤ x.2 29 36 ∧ x.2 29 36 < σ 29 22 ∧ 0 ≤ x.2 29 37 ∧ x.2 29 37 < σ 29 21 ∧ -1 ≤ x.2 29 40 ∧ x.2 29 40 < 192) ∧ (0 ≤ x.1 ∧ f ≤ x.1 ∧ x.1 ≤ t + 2 ∨ x.1 = f) ∧ (σ 29 43 ≤ x.2 29 43 ∧ x.2 29 43 ≤ σ 29 43 + 23 * (x.1 - f))) → pe_G m_M_sendClusters 3 [some (pe_r 29), some (pe_i r), some (pe_i f), some (pe_i t), some (pe_i x.1)] [] x.2 (pe_qv (fun σ' => pe_B σ' ∧ (∀ b, b ∉ [29, 42, 43, 46] → σ' b = σ b) ∧ (∀ j, j ∉ ([36, 37, 38, 39, 40, 43] : List Int) → σ' 29 j = σ 29 j) ∧ pe_SW (σ' 29) (σ' 42) ∧ (0 ≤ σ' 29 36 ∧ σ' 29 36 < σ 29 22 ∧ 0 ≤ σ' 29 37 ∧ σ' 29 37 < σ 29 21 ∧ -1 ≤ σ' 29 40 ∧ σ' 29 40 < 192) ∧ (σ 29 43 ≤ σ' 29 43 ∧ σ' 29 43 ≤ σ 29 43 + 600))) := by
    refine pe_loop (fun x : Int × pe_H => (100 - x.1).toNat) _ _ ?_
    intro x hI ih
    obtain ⟨c, τ⟩ := x
    dsimp only at hI ⊢
    obtain ⟨hB, hfr, hX⟩ := hI
    obtain ⟨hor, hS, hX⟩ := hX
    have w21 : τ 29 21 = σ 29 21 := hor 21 (by decide)
    have w22 : τ 29 22 = σ 29 22 := hor 22 (by decide)
    have hBt := hB
    refine pe_iload d_M_sendClusters_3 rfl ?_
    refine pe_iload_n d_M_sendClusters_5 rfl ?_
    refine pe_icmp_gt (t := 53) d_M_sendClusters_6 (by first | exact hB _ _ | exact hB0 _ _ | exact hBt _ _ | exact ⟨by omega, by omega⟩) (by first | exact hB _ _ | exact hB0 _ _ | exact hBt _ _ | exact ⟨by omega, by omega⟩) (fun h6 => ?_) (fun h6 => ?_)
    · skip
      refine pe_rv d_M_sendClusters_53 ?_
      exact ⟨hB, (fun b hb => hfr b (by simp at hb ⊢; try omega)), (fun j hj => hor j (by simp at hj ⊢; try omega)), hS, by omega, by omega⟩
    · skip
      refine pe_aload_n d_M_sendClusters_9 rfl ?_
      refine pe_iload_n d_M_sendClusters_10 rfl ?_
      refine pe_iload d_M_sendClusters_11 rfl ?_
      refine pe_v2v d_M_sendClusters_13 c_M_294 i_M_sendCluster s_M_sendCluster rfl rfl (t_M_sendCluster hB (by omega) (by omega) (by omega) hS (pe_DW_to hD (by omega) (by omega) (hfr 40 (by decide))) (by omega) (by omega)) (fun σ13 hz13 => ?_)
      obtain ⟨hB, f13, o13, x13⟩ := hz13
      try have u13_0 : σ13 29 21 = τ 29 21 := by first | exact o13 21 (by decide) | exact congrFun (f13 29 (by decide)) 21
      try have u13_1 : σ13 29 22 = τ 29 22 := by first | exact o13 22 (by decide) | exact congrFun (f13 29 (by decide)) 22
      try have u13_2 : σ13 29 36 = τ 29 36 := by first | exact o13 36 (by decide) | exact congrFun (f13 29 (by decide)) 36
      try have u13_3 : σ13 29 37 = τ 29 37 := by first | exact o13 37 (by decide) | exact congrFun (f13 29 (by decide)) 37
      try have u13_4 : σ13 29 38 = τ 29 38 := by first | exact o13 38 (by decide) | exact congrFun (f13 29 (by decide)) 38
      try have u13_5 : σ13 29 39 = τ 29 39 := by first | exact o13 39 (by decide) | exact congrFun (f13 29 (by decide)) 39
      try have u13_6 : σ13 29 40 = τ 29 40 := by first | exact o13 40 (by decide) | exact congrFun (f13 29 (by decide)) 40
      try have u13_7 : σ13 29 43 = τ 29 43 := by first | exact o13 43 (by decide) | exact congrFun (f13 29 (by decide)) 43
      have ix := pe_ix (W := σ13 29 21) (H := σ 29 22) (r := r) (c := c) (by omega) (by omega) (by omega) (by omega)
      have hd0 : 0 ≤ σ13 40 (σ13 29 21 * r + c) := by rw [f13 40 (by decide), hfr 40 (by decide)]; exact hD.1 _ (by omega) (by omega)
      have hd1 := hB 40 (σ13 29 21 * r + c)
      refine pe_iload d_M_sendClusters_16 rfl ?_
      refine pe_aload_n d_M_sendClusters_18 rfl ?_
      refine pe_getr f_M_50 d_M_sendClusters_19 rfl rfl ?_
      refine pe_aload_n d_M_sendClusters_22 rfl ?_
      refine pe_geti f_M_78 d_M_sendClusters_23 rfl rfl 21 rfl ?_
      refine pe_iload_n d_M_sendClusters_26 rfl ?_
      refine pe_imul d_M_sendClusters_27 ?_
      refine pe_iload d_M_sendClusters_28 rfl ?_
      refine pe_iadd d_M_sendClusters_30 ?_
      refine pe_iald d_M_sendClusters_31 rfl (by omega) (by omega) ?_
      refine pe_ldcw q_M_256 d_M_sendClusters_32 (z := 65535) rfl ?_
      refine pe_iand d_M_sendClusters_35 (pe_and 16 65536 (by omega) (by omega)) ?_
      refine pe_s1p d_M_sendClusters_36 c_M_97 z_M_isWide (t_M_isWide (by first | exact hB _ _ | exact hB0 _ _ | exact hBt _ _ | exact ⟨by omega, by omega⟩)) (fun z36 hz36 => ?_)
      refine pe_if_eq (t := 46) d_M_sendClusters_39 (by first | exact hB _ _ | exact hB0 _ _ | exact hBt _ _ | exact ⟨by omega, by omega⟩) (fun h39 => ?_) (fun h39 => ?_)
      · skip
        refine pe_iconst d_M_sendClusters_46 ?_
        refine pe_iadd d_M_sendClusters_47 ?_
        refine pe_istore d_M_sendClusters_48 ?_
        refine pe_goto (t := 3) d_M_sendClusters_50 ?_
        exact ih (_, _) ⟨hB, (fun b hb => (f13 b (by simp at hb ⊢; try omega)).trans (hfr b (by simp at hb ⊢; try omega))), (fun j hj => (o13 j (by simp at hj ⊢; try omega)).trans (hor j (by simp at hj ⊢; try omega))), x13.1, by (try dsimp only); omega⟩ (by (try dsimp only); omega)
      · skip
        refine pe_iconst d_M_sendClusters_42 ?_
        refine pe_goto (t := 47) d_M_sendClusters_43 ?_
        refine pe_iadd d_M_sendClusters_47 ?_
        refine pe_istore d_M_sendClusters_48 ?_
        refine pe_goto (t := 3) d_M_sendClusters_50 ?_
        exact ih (_, _) ⟨hB, (fun b hb => (f13 b (by simp at hb ⊢; try omega)).trans (hfr b (by simp at hb ⊢; try omega))), (fun j hj => (o13 j (by simp at hj ⊢; try omega)).trans (hor j (by simp at hj ⊢; try omega))), x13.1, by (try dsimp only); omega⟩ (by (try dsimp only); omega)
  refine pe_iload_n d_M_sendClusters_0 rfl ?_
  refine pe_istore d_M_sendClusters_1 ?_
  exact J3 (_, _) ⟨hB, (fun b hb => rfl), (fun j hj => rfl), hS, by (try dsimp only); omega⟩
theorem t_M_differs {σ : pe_H} {a : Int} (hB : pe_B σ) (ha : 0 ≤ a ∧ a < 192) : pe_M m_M_differs [pe_r 29, pe_i a] σ (pe_qp σ (fun z => (z = 0 ∨ z = 1) ∧ (z = 1 ↔ (σ 40 (a) ≠ σ 42 (a) ∨ σ 41 (a) ≠ σ 43 (a))))) := by
  refine pe_in0 (lv := [some (pe_r 29), some (pe_i a)]) ?_
  have hB0 := hB
  refine pe_aload_n d_M_differs_0 rfl ?_
  refine pe_getr f_M_50 d_M_differs_1 rfl rfl ?_
  refine pe_iload_n d_M_differs_4 rfl ?_
  refine pe_iald d_M_differs_5 rfl (by omega) (by omega) ?_
  refine pe_aload_n d_M_differs_6 rfl ?_
  refine pe_getr f_M_56 d_M_differs_7 rfl rfl ?_
  refine pe_iload_n d_M_differs_10 rfl ?_
  refine pe_iald d_M_differs_11 rfl (by omega) (by omega) ?_
  refine pe_icmp_ne (t := 30) d_M_differs_12 (by first | exact hB _ _ | exact hB0 _ _ | exact hBt _ _ | exact ⟨by omega, by omega⟩) (by first | exact hB _ _ | exact hB0 _ _ | exact hBt _ _ | exact ⟨by omega, by omega⟩) (fun h12 => ?_) (fun h12 => ?_)
  · skip
    refine pe_iconst d_M_differs_30 ?_
    refine pe_goto (t := 35) d_M_differs_31 ?_
    refine pe_rz d_M_differs_35 (by first | exact Or.inl rfl | exact Or.inr rfl | omega) ?_
    exact ⟨rfl, by (try dsimp only); omega⟩
  · skip
    refine pe_aload_n d_M_differs_15 rfl ?_
    refine pe_getr f_M_53 d_M_differs_16 rfl rfl ?_
    refine pe_iload_n d_M_differs_19 rfl ?_
    refine pe_iald d_M_differs_20 rfl (by omega) (by omega) ?_
    refine pe_aload_n d_M_differs_21 rfl ?_
    refine pe_getr f_M_59 d_M_differs_22 rfl rfl ?_
    refine pe_iload_n d_M_differs_25 rfl ?_
    refine pe_iald d_M_differs_26 rfl (by omega) (by omega) ?_
    refine pe_icmp_eq (t := 34) d_M_differs_27 (by first | exact hB _ _ | exact hB0 _ _ | exact hBt _ _ | exact ⟨by omega, by omega⟩) (by first | exact hB _ _ | exact hB0 _ _ | exact hBt _ _ | exact ⟨by omega, by omega⟩) (fun h27 => ?_) (fun h27 => ?_)
    · skip
      refine pe_iconst d_M_differs_34 ?_
      refine pe_rz d_M_differs_35 (by first | exact Or.inl rfl | exact Or.inr rfl | omega) ?_
      exact ⟨rfl, by (try dsimp only); omega⟩
    · skip
      refine pe_iconst d_M_differs_30 ?_
      refine pe_goto (t := 35) d_M_differs_31 ?_
      refine pe_rz d_M_differs_35 (by first | exact Or.inl rfl | exact Or.inr rfl | omega) ?_
      exact ⟨rfl, by (try dsimp only); omega⟩
