/-! p1: the first drawing of the reference -/
theorem pe_a128 : ∀ k : Fin 128, Int32.ofInt ((k : Nat) : Int) &&& Int32.ofInt 65535 = Int32.ofInt ((k : Nat) : Int) ∧ Int32.ofInt ((k : Nat) : Int) >>> (Int32.ofInt 16 &&& 31) = Int32.ofInt 0 ∧ Int32.ofInt ((k : Nat) : Int) >>> (Int32.ofInt 23 &&& 31) = Int32.ofInt 0 := by decide +kernel
theorem pe_a127 {a : Int} (h : 0 ≤ a ∧ a ≤ 127) : Int32.ofInt a &&& Int32.ofInt 65535 = Int32.ofInt a ∧ Int32.ofInt a >>> (Int32.ofInt 16 &&& 31) = Int32.ofInt 0 ∧ Int32.ofInt a >>> (Int32.ofInt 23 &&& 31) = Int32.ofInt 0 := by
  have q := pe_a128 ⟨a.toNat, by omega⟩
  have e : ((a.toNat : Nat) : Int) = a := by omega
  dsimp only at q
  rw [e] at q
  exact q
theorem y_M_put {σ : pe_H} {k : Int} (hB : pe_B σ) (hq : 0 ≤ σ 29 43 ∧ σ 29 43 ≤ 5990) (hk : pe_R k) : pe_M m_M_put [pe_r 29, pe_i k] σ (pe_qv (fun σ' => pe_B σ' ∧ (∀ b, b ∉ [29, 46] → σ' b = σ b) ∧ (∀ j, j ∉ ([43] : List Int) → σ' 29 j = σ 29 j) ∧ σ' 29 43 = σ 29 43 + 1)) := by
  refine pe_in0 (lv := [some (pe_r 29), some (pe_i k)]) ?_
  have hB0 := hB
  refine pe_aload_n d_M_put_0 rfl ?_
  refine pe_getr f_M_75 d_M_put_1 rfl rfl ?_
  refine pe_aload_n d_M_put_4 rfl ?_
  refine pe_geti f_M_250 d_M_put_5 rfl rfl 43 rfl ?_
  refine pe_iload_n d_M_put_8 rfl ?_
  refine pe_iastT d_M_put_9 rfl (by omega) (by omega) hB (by first | exact hB _ _ | exact hB0 _ _ | exact hBt _ _ | exact ⟨by omega, by omega⟩) (fun σ9 hB e9 o9 f9 => ?_)
  try have u9_0 : σ9 29 1 = σ 29 1 := by first | exact o9 1 (by decide) | exact congrFun (f9 29 (by decide)) 1
  try have u9_1 : σ9 29 2 = σ 29 2 := by first | exact o9 2 (by decide) | exact congrFun (f9 29 (by decide)) 2
  try have u9_2 : σ9 29 3 = σ 29 3 := by first | exact o9 3 (by decide) | exact congrFun (f9 29 (by decide)) 3
  try have u9_3 : σ9 29 7 = σ 29 7 := by first | exact o9 7 (by decide) | exact congrFun (f9 29 (by decide)) 7
  try have u9_4 : σ9 29 21 = σ 29 21 := by first | exact o9 21 (by decide) | exact congrFun (f9 29 (by decide)) 21
  try have u9_5 : σ9 29 22 = σ 29 22 := by first | exact o9 22 (by decide) | exact congrFun (f9 29 (by decide)) 22
  try have u9_6 : σ9 29 27 = σ 29 27 := by first | exact o9 27 (by decide) | exact congrFun (f9 29 (by decide)) 27
  try have u9_7 : σ9 29 30 = σ 29 30 := by first | exact o9 30 (by decide) | exact congrFun (f9 29 (by decide)) 30
  try have u9_8 : σ9 29 31 = σ 29 31 := by first | exact o9 31 (by decide) | exact congrFun (f9 29 (by decide)) 31
  try have u9_9 : σ9 29 36 = σ 29 36 := by first | exact o9 36 (by decide) | exact congrFun (f9 29 (by decide)) 36
  try have u9_10 : σ9 29 37 = σ 29 37 := by first | exact o9 37 (by decide) | exact congrFun (f9 29 (by decide)) 37
  try have u9_11 : σ9 29 38 = σ 29 38 := by first | exact o9 38 (by decide) | exact congrFun (f9 29 (by decide)) 38
  try have u9_12 : σ9 29 39 = σ 29 39 := by first | exact o9 39 (by decide) | exact congrFun (f9 29 (by decide)) 39
  try have u9_13 : σ9 29 40 = σ 29 40 := by first | exact o9 40 (by decide) | exact congrFun (f9 29 (by decide)) 40
  try have u9_14 : σ9 29 41 = σ 29 41 := by first | exact o9 41 (by decide) | exact congrFun (f9 29 (by decide)) 41
  try have u9_15 : σ9 29 43 = σ 29 43 := by first | exact o9 43 (by decide) | exact congrFun (f9 29 (by decide)) 43
  refine pe_aload_n d_M_put_10 rfl ?_
  refine pe_dup d_M_put_11 ?_
  refine pe_geti f_M_250 d_M_put_12 rfl rfl 43 rfl ?_
  refine pe_iconst d_M_put_15 ?_
  refine pe_iadd d_M_put_16 ?_
  refine pe_putiT f_M_250 g_11_43 d_M_put_17 rfl rfl 43 rfl hB (by first | exact hB _ _ | exact hB0 _ _ | exact hBt _ _ | exact ⟨by omega, by omega⟩) (fun σ17 hB e17 o17 f17 => ?_)
  try have u17_0 : σ17 29 1 = σ9 29 1 := by first | exact o17 1 (by decide) | exact congrFun (f17 29 (by decide)) 1
  try have u17_1 : σ17 29 2 = σ9 29 2 := by first | exact o17 2 (by decide) | exact congrFun (f17 29 (by decide)) 2
  try have u17_2 : σ17 29 3 = σ9 29 3 := by first | exact o17 3 (by decide) | exact congrFun (f17 29 (by decide)) 3
  try have u17_3 : σ17 29 7 = σ9 29 7 := by first | exact o17 7 (by decide) | exact congrFun (f17 29 (by decide)) 7
  try have u17_4 : σ17 29 21 = σ9 29 21 := by first | exact o17 21 (by decide) | exact congrFun (f17 29 (by decide)) 21
  try have u17_5 : σ17 29 22 = σ9 29 22 := by first | exact o17 22 (by decide) | exact congrFun (f17 29 (by decide)) 22
  try have u17_6 : σ17 29 27 = σ9 29 27 := by first | exact o17 27 (by decide) | exact congrFun (f17 29 (by decide)) 27
  try have u17_7 : σ17 29 30 = σ9 29 30 := by first | exact o17 30 (by decide) | exact congrFun (f17 29 (by decide)) 30
  try have u17_8 : σ17 29 31 = σ9 29 31 := by first | exact o17 31 (by decide) | exact congrFun (f17 29 (by decide)) 31
  try have u17_9 : σ17 29 36 = σ9 29 36 := by first | exact o17 36 (by decide) | exact congrFun (f17 29 (by decide)) 36
  try have u17_10 : σ17 29 37 = σ9 29 37 := by first | exact o17 37 (by decide) | exact congrFun (f17 29 (by decide)) 37
  try have u17_11 : σ17 29 38 = σ9 29 38 := by first | exact o17 38 (by decide) | exact congrFun (f17 29 (by decide)) 38
  try have u17_12 : σ17 29 39 = σ9 29 39 := by first | exact o17 39 (by decide) | exact congrFun (f17 29 (by decide)) 39
  try have u17_13 : σ17 29 40 = σ9 29 40 := by first | exact o17 40 (by decide) | exact congrFun (f17 29 (by decide)) 40
  try have u17_14 : σ17 29 41 = σ9 29 41 := by first | exact o17 41 (by decide) | exact congrFun (f17 29 (by decide)) 41
  try have u17_15 : σ17 29 43 = σ9 29 43 := by first | exact o17 43 (by decide) | exact congrFun (f17 29 (by decide)) 43
  refine pe_rv d_M_put_20 ?_
  exact ⟨hB, (fun b hb => (f17 b (by simp at hb ⊢; try omega)).trans ((f9 b (by simp at hb ⊢; try omega)).trans (rfl))), (fun j hj => (o17 j (by simp at hj ⊢; try omega)).trans ((congrFun (f9 29 (by decide)) j).trans (rfl))), by omega⟩
theorem y_M_putNumber {σ : pe_H} {k : Int} (hB : pe_B σ) (hq : 0 ≤ σ 29 43 ∧ σ 29 43 ≤ 5900) (hk : 0 ≤ k ∧ k ≤ 9) : pe_M m_M_putNumber [pe_r 29, pe_i k] σ (pe_qv (fun σ' => pe_B σ' ∧ (∀ b, b ∉ [29, 46] → σ' b = σ b) ∧ (∀ j, j ∉ ([43] : List Int) → σ' 29 j = σ 29 j) ∧ σ' 29 43 = σ 29 43 + 1)) := by
  refine pe_in0 (lv := [some (pe_r 29), some (pe_i k)]) ?_
  have hB0 := hB
  refine pe_iload_n d_M_putNumber_0 rfl ?_
  refine pe_bipush d_M_putNumber_1 ?_
  refine pe_icmp_le (t := 17) d_M_putNumber_3 (by first | exact hB _ _ | exact hB0 _ _ | exact hBt _ _ | exact ⟨by omega, by omega⟩) (by first | exact hB _ _ | exact hB0 _ _ | exact hBt _ _ | exact ⟨by omega, by omega⟩) (fun h3 => ?_) (fun h3 => ?_)
  · skip
    refine pe_aload_n d_M_putNumber_17 rfl ?_
    refine pe_bipush d_M_putNumber_18 ?_
    refine pe_iload_n d_M_putNumber_20 rfl ?_
    refine pe_bipush d_M_putNumber_21 ?_
    refine pe_irem d_M_putNumber_23 (by first | exact hB _ _ | exact hB0 _ _ | exact hBt _ _ | exact ⟨by omega, by omega⟩) (by omega) (by first | exact hB _ _ | exact hB0 _ _ | exact hBt _ _ | exact ⟨by omega, by omega⟩) ?_
    refine pe_iadd d_M_putNumber_24 ?_
    refine pe_any (fun v25 hv25 => ?_)
    refine pe_v1v d_M_putNumber_25 c_M_253 i_M_put s_M_put rfl rfl (y_M_put hB (by omega) (by first | exact hB _ _ | exact hB0 _ _ | exact hBt _ _ | exact ⟨by omega, by omega⟩)) (fun σ25 hz25 => ?_)
    obtain ⟨hB, f25, o25, x25⟩ := hz25
    try have u25_0 : σ25 29 1 = σ 29 1 := by first | exact o25 1 (by decide) | exact congrFun (f25 29 (by decide)) 1
    try have u25_1 : σ25 29 2 = σ 29 2 := by first | exact o25 2 (by decide) | exact congrFun (f25 29 (by decide)) 2
    try have u25_2 : σ25 29 3 = σ 29 3 := by first | exact o25 3 (by decide) | exact congrFun (f25 29 (by decide)) 3
    try have u25_3 : σ25 29 7 = σ 29 7 := by first | exact o25 7 (by decide) | exact congrFun (f25 29 (by decide)) 7
    try have u25_4 : σ25 29 21 = σ 29 21 := by first | exact o25 21 (by decide) | exact congrFun (f25 29 (by decide)) 21
    try have u25_5 : σ25 29 22 = σ 29 22 := by first | exact o25 22 (by decide) | exact congrFun (f25 29 (by decide)) 22
    try have u25_6 : σ25 29 27 = σ 29 27 := by first | exact o25 27 (by decide) | exact congrFun (f25 29 (by decide)) 27
    try have u25_7 : σ25 29 30 = σ 29 30 := by first | exact o25 30 (by decide) | exact congrFun (f25 29 (by decide)) 30
    try have u25_8 : σ25 29 31 = σ 29 31 := by first | exact o25 31 (by decide) | exact congrFun (f25 29 (by decide)) 31
    try have u25_9 : σ25 29 36 = σ 29 36 := by first | exact o25 36 (by decide) | exact congrFun (f25 29 (by decide)) 36
    try have u25_10 : σ25 29 37 = σ 29 37 := by first | exact o25 37 (by decide) | exact congrFun (f25 29 (by decide)) 37
    try have u25_11 : σ25 29 38 = σ 29 38 := by first | exact o25 38 (by decide) | exact congrFun (f25 29 (by decide)) 38
    try have u25_12 : σ25 29 39 = σ 29 39 := by first | exact o25 39 (by decide) | exact congrFun (f25 29 (by decide)) 39
    try have u25_13 : σ25 29 40 = σ 29 40 := by first | exact o25 40 (by decide) | exact congrFun (f25 29 (by decide)) 40
    try have u25_14 : σ25 29 41 = σ 29 41 := by first | exact o25 41 (by decide) | exact congrFun (f25 29 (by decide)) 41
    try have u25_15 : σ25 29 43 = σ 29 43 := by first | exact o25 43 (by decide) | exact congrFun (f25 29 (by decide)) 43
    refine pe_rv d_M_putNumber_28 ?_
    exact ⟨hB, (fun b hb => (f25 b (by simp at hb ⊢; try omega)).trans (rfl)), (fun j hj => (o25 j (by simp at hj ⊢; try omega)).trans (rfl)), by omega⟩
  · skip
    exfalso; omega
theorem y_M_putBegin {σ : pe_H} (hB : pe_B σ) (hq : 0 ≤ σ 29 43 ∧ σ 29 43 ≤ 5900) : pe_M m_M_putBegin [pe_r 29] σ (pe_qv (fun σ' => pe_B σ' ∧ (∀ b, b ∉ [29, 46] → σ' b = σ b) ∧ (∀ j, j ∉ ([43] : List Int) → σ' 29 j = σ 29 j) ∧ σ' 29 43 = σ 29 43 + 2)) := by
  refine pe_in0 (lv := [some (pe_r 29)]) ?_
  have hB0 := hB
  refine pe_aload_n d_M_putBegin_0 rfl ?_
  refine pe_bipush d_M_putBegin_1 ?_
  refine pe_any (fun v3 hv3 => ?_)
  refine pe_v1v d_M_putBegin_3 c_M_253 i_M_put s_M_put rfl rfl (y_M_put hB (by omega) (by first | exact hB _ _ | exact hB0 _ _ | exact hBt _ _ | exact ⟨by omega, by omega⟩)) (fun σ3 hz3 => ?_)
  obtain ⟨hB, f3, o3, x3⟩ := hz3
  try have u3_0 : σ3 29 1 = σ 29 1 := by first | exact o3 1 (by decide) | exact congrFun (f3 29 (by decide)) 1
  try have u3_1 : σ3 29 2 = σ 29 2 := by first | exact o3 2 (by decide) | exact congrFun (f3 29 (by decide)) 2
  try have u3_2 : σ3 29 3 = σ 29 3 := by first | exact o3 3 (by decide) | exact congrFun (f3 29 (by decide)) 3
  try have u3_3 : σ3 29 7 = σ 29 7 := by first | exact o3 7 (by decide) | exact congrFun (f3 29 (by decide)) 7
  try have u3_4 : σ3 29 21 = σ 29 21 := by first | exact o3 21 (by decide) | exact congrFun (f3 29 (by decide)) 21
  try have u3_5 : σ3 29 22 = σ 29 22 := by first | exact o3 22 (by decide) | exact congrFun (f3 29 (by decide)) 22
  try have u3_6 : σ3 29 27 = σ 29 27 := by first | exact o3 27 (by decide) | exact congrFun (f3 29 (by decide)) 27
  try have u3_7 : σ3 29 30 = σ 29 30 := by first | exact o3 30 (by decide) | exact congrFun (f3 29 (by decide)) 30
  try have u3_8 : σ3 29 31 = σ 29 31 := by first | exact o3 31 (by decide) | exact congrFun (f3 29 (by decide)) 31
  try have u3_9 : σ3 29 36 = σ 29 36 := by first | exact o3 36 (by decide) | exact congrFun (f3 29 (by decide)) 36
  try have u3_10 : σ3 29 37 = σ 29 37 := by first | exact o3 37 (by decide) | exact congrFun (f3 29 (by decide)) 37
  try have u3_11 : σ3 29 38 = σ 29 38 := by first | exact o3 38 (by decide) | exact congrFun (f3 29 (by decide)) 38
  try have u3_12 : σ3 29 39 = σ 29 39 := by first | exact o3 39 (by decide) | exact congrFun (f3 29 (by decide)) 39
  try have u3_13 : σ3 29 40 = σ 29 40 := by first | exact o3 40 (by decide) | exact congrFun (f3 29 (by decide)) 40
  try have u3_14 : σ3 29 41 = σ 29 41 := by first | exact o3 41 (by decide) | exact congrFun (f3 29 (by decide)) 41
  try have u3_15 : σ3 29 43 = σ 29 43 := by first | exact o3 43 (by decide) | exact congrFun (f3 29 (by decide)) 43
  refine pe_aload_n d_M_putBegin_6 rfl ?_
  refine pe_bipush d_M_putBegin_7 ?_
  refine pe_any (fun v9 hv9 => ?_)
  refine pe_v1v d_M_putBegin_9 c_M_253 i_M_put s_M_put rfl rfl (y_M_put hB (by omega) (by first | exact hB _ _ | exact hB0 _ _ | exact hBt _ _ | exact ⟨by omega, by omega⟩)) (fun σ9 hz9 => ?_)
  obtain ⟨hB, f9, o9, x9⟩ := hz9
  try have u9_0 : σ9 29 1 = σ3 29 1 := by first | exact o9 1 (by decide) | exact congrFun (f9 29 (by decide)) 1
  try have u9_1 : σ9 29 2 = σ3 29 2 := by first | exact o9 2 (by decide) | exact congrFun (f9 29 (by decide)) 2
  try have u9_2 : σ9 29 3 = σ3 29 3 := by first | exact o9 3 (by decide) | exact congrFun (f9 29 (by decide)) 3
  try have u9_3 : σ9 29 7 = σ3 29 7 := by first | exact o9 7 (by decide) | exact congrFun (f9 29 (by decide)) 7
  try have u9_4 : σ9 29 21 = σ3 29 21 := by first | exact o9 21 (by decide) | exact congrFun (f9 29 (by decide)) 21
  try have u9_5 : σ9 29 22 = σ3 29 22 := by first | exact o9 22 (by decide) | exact congrFun (f9 29 (by decide)) 22
  try have u9_6 : σ9 29 27 = σ3 29 27 := by first | exact o9 27 (by decide) | exact congrFun (f9 29 (by decide)) 27
  try have u9_7 : σ9 29 30 = σ3 29 30 := by first | exact o9 30 (by decide) | exact congrFun (f9 29 (by decide)) 30
  try have u9_8 : σ9 29 31 = σ3 29 31 := by first | exact o9 31 (by decide) | exact congrFun (f9 29 (by decide)) 31
  try have u9_9 : σ9 29 36 = σ3 29 36 := by first | exact o9 36 (by decide) | exact congrFun (f9 29 (by decide)) 36
  try have u9_10 : σ9 29 37 = σ3 29 37 := by first | exact o9 37 (by decide) | exact congrFun (f9 29 (by decide)) 37
  try have u9_11 : σ9 29 38 = σ3 29 38 := by first | exact o9 38 (by decide) | exact congrFun (f9 29 (by decide)) 38
  try have u9_12 : σ9 29 39 = σ3 29 39 := by first | exact o9 39 (by decide) | exact congrFun (f9 29 (by decide)) 39
  try have u9_13 : σ9 29 40 = σ3 29 40 := by first | exact o9 40 (by decide) | exact congrFun (f9 29 (by decide)) 40
  try have u9_14 : σ9 29 41 = σ3 29 41 := by first | exact o9 41 (by decide) | exact congrFun (f9 29 (by decide)) 41
  try have u9_15 : σ9 29 43 = σ3 29 43 := by first | exact o9 43 (by decide) | exact congrFun (f9 29 (by decide)) 43
  refine pe_rv d_M_putBegin_12 ?_
  exact ⟨hB, (fun b hb => (f9 b (by simp at hb ⊢; try omega)).trans ((f3 b (by simp at hb ⊢; try omega)).trans (rfl))), (fun j hj => (o9 j (by simp at hj ⊢; try omega)).trans ((o3 j (by simp at hj ⊢; try omega)).trans (rfl))), by omega⟩
theorem y_M_setLook {σ : pe_H} {k : Int} (hB : pe_B σ) (hq : 0 ≤ σ 29 43 ∧ σ 29 43 ≤ 5800) (hk : k = 0 ∨ k = 1) : pe_M m_M_setLook [pe_r 29, pe_i k] σ (pe_qv (fun σ' => pe_B σ' ∧ (∀ b, b ∉ [29, 46] → σ' b = σ b) ∧ (∀ j, j ∉ ([39, 43] : List Int) → σ' 29 j = σ 29 j) ∧ ((k = 0 → σ' 29 43 = σ 29 43 + 4) ∧ (k = 1 → σ' 29 43 = σ 29 43 + 6)) ∧ σ' 29 39 = k)) := by
  refine pe_in0 (lv := [some (pe_r 29), some (pe_i k)]) ?_
  have hB0 := hB
  refine pe_aload_n d_M_setLook_0 rfl ?_
  refine pe_v0v d_M_setLook_1 c_M_275 i_M_putBegin s_M_putBegin rfl rfl (y_M_putBegin hB (by omega)) (fun σ1 hz1 => ?_)
  obtain ⟨hB, f1, o1, x1⟩ := hz1
  try have u1_0 : σ1 29 1 = σ 29 1 := by first | exact o1 1 (by decide) | exact congrFun (f1 29 (by decide)) 1
  try have u1_1 : σ1 29 2 = σ 29 2 := by first | exact o1 2 (by decide) | exact congrFun (f1 29 (by decide)) 2
  try have u1_2 : σ1 29 3 = σ 29 3 := by first | exact o1 3 (by decide) | exact congrFun (f1 29 (by decide)) 3
  try have u1_3 : σ1 29 7 = σ 29 7 := by first | exact o1 7 (by decide) | exact congrFun (f1 29 (by decide)) 7
  try have u1_4 : σ1 29 21 = σ 29 21 := by first | exact o1 21 (by decide) | exact congrFun (f1 29 (by decide)) 21
  try have u1_5 : σ1 29 22 = σ 29 22 := by first | exact o1 22 (by decide) | exact congrFun (f1 29 (by decide)) 22
  try have u1_6 : σ1 29 27 = σ 29 27 := by first | exact o1 27 (by decide) | exact congrFun (f1 29 (by decide)) 27
  try have u1_7 : σ1 29 30 = σ 29 30 := by first | exact o1 30 (by decide) | exact congrFun (f1 29 (by decide)) 30
  try have u1_8 : σ1 29 31 = σ 29 31 := by first | exact o1 31 (by decide) | exact congrFun (f1 29 (by decide)) 31
  try have u1_9 : σ1 29 36 = σ 29 36 := by first | exact o1 36 (by decide) | exact congrFun (f1 29 (by decide)) 36
  try have u1_10 : σ1 29 37 = σ 29 37 := by first | exact o1 37 (by decide) | exact congrFun (f1 29 (by decide)) 37
  try have u1_11 : σ1 29 38 = σ 29 38 := by first | exact o1 38 (by decide) | exact congrFun (f1 29 (by decide)) 38
  try have u1_12 : σ1 29 39 = σ 29 39 := by first | exact o1 39 (by decide) | exact congrFun (f1 29 (by decide)) 39
  try have u1_13 : σ1 29 40 = σ 29 40 := by first | exact o1 40 (by decide) | exact congrFun (f1 29 (by decide)) 40
  try have u1_14 : σ1 29 41 = σ 29 41 := by first | exact o1 41 (by decide) | exact congrFun (f1 29 (by decide)) 41
  try have u1_15 : σ1 29 43 = σ 29 43 := by first | exact o1 43 (by decide) | exact congrFun (f1 29 (by decide)) 43
  refine pe_aload_n d_M_setLook_4 rfl ?_
  refine pe_bipush d_M_setLook_5 ?_
  refine pe_any (fun v7 hv7 => ?_)
  refine pe_v1v d_M_setLook_7 c_M_253 i_M_put s_M_put rfl rfl (y_M_put hB (by omega) (by first | exact hB _ _ | exact hB0 _ _ | exact hBt _ _ | exact ⟨by omega, by omega⟩)) (fun σ7 hz7 => ?_)
  obtain ⟨hB, f7, o7, x7⟩ := hz7
  try have u7_0 : σ7 29 1 = σ1 29 1 := by first | exact o7 1 (by decide) | exact congrFun (f7 29 (by decide)) 1
  try have u7_1 : σ7 29 2 = σ1 29 2 := by first | exact o7 2 (by decide) | exact congrFun (f7 29 (by decide)) 2
  try have u7_2 : σ7 29 3 = σ1 29 3 := by first | exact o7 3 (by decide) | exact congrFun (f7 29 (by decide)) 3
  try have u7_3 : σ7 29 7 = σ1 29 7 := by first | exact o7 7 (by decide) | exact congrFun (f7 29 (by decide)) 7
  try have u7_4 : σ7 29 21 = σ1 29 21 := by first | exact o7 21 (by decide) | exact congrFun (f7 29 (by decide)) 21
  try have u7_5 : σ7 29 22 = σ1 29 22 := by first | exact o7 22 (by decide) | exact congrFun (f7 29 (by decide)) 22
  try have u7_6 : σ7 29 27 = σ1 29 27 := by first | exact o7 27 (by decide) | exact congrFun (f7 29 (by decide)) 27
  try have u7_7 : σ7 29 30 = σ1 29 30 := by first | exact o7 30 (by decide) | exact congrFun (f7 29 (by decide)) 30
  try have u7_8 : σ7 29 31 = σ1 29 31 := by first | exact o7 31 (by decide) | exact congrFun (f7 29 (by decide)) 31
  try have u7_9 : σ7 29 36 = σ1 29 36 := by first | exact o7 36 (by decide) | exact congrFun (f7 29 (by decide)) 36
  try have u7_10 : σ7 29 37 = σ1 29 37 := by first | exact o7 37 (by decide) | exact congrFun (f7 29 (by decide)) 37
  try have u7_11 : σ7 29 38 = σ1 29 38 := by first | exact o7 38 (by decide) | exact congrFun (f7 29 (by decide)) 38
  try have u7_12 : σ7 29 39 = σ1 29 39 := by first | exact o7 39 (by decide) | exact congrFun (f7 29 (by decide)) 39
  try have u7_13 : σ7 29 40 = σ1 29 40 := by first | exact o7 40 (by decide) | exact congrFun (f7 29 (by decide)) 40
  try have u7_14 : σ7 29 41 = σ1 29 41 := by first | exact o7 41 (by decide) | exact congrFun (f7 29 (by decide)) 41
  try have u7_15 : σ7 29 43 = σ1 29 43 := by first | exact o7 43 (by decide) | exact congrFun (f7 29 (by decide)) 43
  refine pe_iload_n d_M_setLook_10 rfl ?_
  refine pe_if_le (t := 36) d_M_setLook_11 (by first | exact hB _ _ | exact hB0 _ _ | exact hBt _ _ | exact ⟨by omega, by omega⟩) (fun h11 => ?_) (fun h11 => ?_)
  · skip
    refine pe_aload_n d_M_setLook_36 rfl ?_
    refine pe_bipush d_M_setLook_37 ?_
    refine pe_any (fun v39 hv39 => ?_)
    refine pe_v1v d_M_setLook_39 c_M_253 i_M_put s_M_put rfl rfl (y_M_put hB (by omega) (by first | exact hB _ _ | exact hB0 _ _ | exact hBt _ _ | exact ⟨by omega, by omega⟩)) (fun σ39 hz39 => ?_)
    obtain ⟨hB, f39, o39, x39⟩ := hz39
    try have u39_0 : σ39 29 1 = σ7 29 1 := by first | exact o39 1 (by decide) | exact congrFun (f39 29 (by decide)) 1
    try have u39_1 : σ39 29 2 = σ7 29 2 := by first | exact o39 2 (by decide) | exact congrFun (f39 29 (by decide)) 2
    try have u39_2 : σ39 29 3 = σ7 29 3 := by first | exact o39 3 (by decide) | exact congrFun (f39 29 (by decide)) 3
    try have u39_3 : σ39 29 7 = σ7 29 7 := by first | exact o39 7 (by decide) | exact congrFun (f39 29 (by decide)) 7
    try have u39_4 : σ39 29 21 = σ7 29 21 := by first | exact o39 21 (by decide) | exact congrFun (f39 29 (by decide)) 21
    try have u39_5 : σ39 29 22 = σ7 29 22 := by first | exact o39 22 (by decide) | exact congrFun (f39 29 (by decide)) 22
    try have u39_6 : σ39 29 27 = σ7 29 27 := by first | exact o39 27 (by decide) | exact congrFun (f39 29 (by decide)) 27
    try have u39_7 : σ39 29 30 = σ7 29 30 := by first | exact o39 30 (by decide) | exact congrFun (f39 29 (by decide)) 30
    try have u39_8 : σ39 29 31 = σ7 29 31 := by first | exact o39 31 (by decide) | exact congrFun (f39 29 (by decide)) 31
    try have u39_9 : σ39 29 36 = σ7 29 36 := by first | exact o39 36 (by decide) | exact congrFun (f39 29 (by decide)) 36
    try have u39_10 : σ39 29 37 = σ7 29 37 := by first | exact o39 37 (by decide) | exact congrFun (f39 29 (by decide)) 37
    try have u39_11 : σ39 29 38 = σ7 29 38 := by first | exact o39 38 (by decide) | exact congrFun (f39 29 (by decide)) 38
    try have u39_12 : σ39 29 39 = σ7 29 39 := by first | exact o39 39 (by decide) | exact congrFun (f39 29 (by decide)) 39
    try have u39_13 : σ39 29 40 = σ7 29 40 := by first | exact o39 40 (by decide) | exact congrFun (f39 29 (by decide)) 40
    try have u39_14 : σ39 29 41 = σ7 29 41 := by first | exact o39 41 (by decide) | exact congrFun (f39 29 (by decide)) 41
    try have u39_15 : σ39 29 43 = σ7 29 43 := by first | exact o39 43 (by decide) | exact congrFun (f39 29 (by decide)) 43
    refine pe_aload_n d_M_setLook_42 rfl ?_
    refine pe_iload_n d_M_setLook_43 rfl ?_
    refine pe_putiT f_M_272 g_11_39 d_M_setLook_44 rfl rfl 39 rfl hB (by first | exact hB _ _ | exact hB0 _ _ | exact hBt _ _ | exact ⟨by omega, by omega⟩) (fun σ44 hB e44 o44 f44 => ?_)
    try have u44_0 : σ44 29 1 = σ39 29 1 := by first | exact o44 1 (by decide) | exact congrFun (f44 29 (by decide)) 1
    try have u44_1 : σ44 29 2 = σ39 29 2 := by first | exact o44 2 (by decide) | exact congrFun (f44 29 (by decide)) 2
    try have u44_2 : σ44 29 3 = σ39 29 3 := by first | exact o44 3 (by decide) | exact congrFun (f44 29 (by decide)) 3
    try have u44_3 : σ44 29 7 = σ39 29 7 := by first | exact o44 7 (by decide) | exact congrFun (f44 29 (by decide)) 7
    try have u44_4 : σ44 29 21 = σ39 29 21 := by first | exact o44 21 (by decide) | exact congrFun (f44 29 (by decide)) 21
    try have u44_5 : σ44 29 22 = σ39 29 22 := by first | exact o44 22 (by decide) | exact congrFun (f44 29 (by decide)) 22
    try have u44_6 : σ44 29 27 = σ39 29 27 := by first | exact o44 27 (by decide) | exact congrFun (f44 29 (by decide)) 27
    try have u44_7 : σ44 29 30 = σ39 29 30 := by first | exact o44 30 (by decide) | exact congrFun (f44 29 (by decide)) 30
    try have u44_8 : σ44 29 31 = σ39 29 31 := by first | exact o44 31 (by decide) | exact congrFun (f44 29 (by decide)) 31
    try have u44_9 : σ44 29 36 = σ39 29 36 := by first | exact o44 36 (by decide) | exact congrFun (f44 29 (by decide)) 36
    try have u44_10 : σ44 29 37 = σ39 29 37 := by first | exact o44 37 (by decide) | exact congrFun (f44 29 (by decide)) 37
    try have u44_11 : σ44 29 38 = σ39 29 38 := by first | exact o44 38 (by decide) | exact congrFun (f44 29 (by decide)) 38
    try have u44_12 : σ44 29 39 = σ39 29 39 := by first | exact o44 39 (by decide) | exact congrFun (f44 29 (by decide)) 39
    try have u44_13 : σ44 29 40 = σ39 29 40 := by first | exact o44 40 (by decide) | exact congrFun (f44 29 (by decide)) 40
    try have u44_14 : σ44 29 41 = σ39 29 41 := by first | exact o44 41 (by decide) | exact congrFun (f44 29 (by decide)) 41
    try have u44_15 : σ44 29 43 = σ39 29 43 := by first | exact o44 43 (by decide) | exact congrFun (f44 29 (by decide)) 43
    refine pe_rv d_M_setLook_47 ?_
    exact ⟨hB, (fun b hb => (f44 b (by simp at hb ⊢; try omega)).trans ((f39 b (by simp at hb ⊢; try omega)).trans ((f7 b (by simp at hb ⊢; try omega)).trans ((f1 b (by simp at hb ⊢; try omega)).trans (rfl))))), (fun j hj => (o44 j (by simp at hj ⊢; try omega)).trans ((o39 j (by simp at hj ⊢; try omega)).trans ((o7 j (by simp at hj ⊢; try omega)).trans ((o1 j (by simp at hj ⊢; try omega)).trans (rfl))))), by omega⟩
  · skip
    refine pe_aload_n d_M_setLook_14 rfl ?_
    refine pe_bipush d_M_setLook_15 ?_
    refine pe_any (fun v17 hv17 => ?_)
    refine pe_v1v d_M_setLook_17 c_M_253 i_M_put s_M_put rfl rfl (y_M_put hB (by omega) (by first | exact hB _ _ | exact hB0 _ _ | exact hBt _ _ | exact ⟨by omega, by omega⟩)) (fun σ17 hz17 => ?_)
    obtain ⟨hB, f17, o17, x17⟩ := hz17
    try have u17_0 : σ17 29 1 = σ7 29 1 := by first | exact o17 1 (by decide) | exact congrFun (f17 29 (by decide)) 1
    try have u17_1 : σ17 29 2 = σ7 29 2 := by first | exact o17 2 (by decide) | exact congrFun (f17 29 (by decide)) 2
    try have u17_2 : σ17 29 3 = σ7 29 3 := by first | exact o17 3 (by decide) | exact congrFun (f17 29 (by decide)) 3
    try have u17_3 : σ17 29 7 = σ7 29 7 := by first | exact o17 7 (by decide) | exact congrFun (f17 29 (by decide)) 7
    try have u17_4 : σ17 29 21 = σ7 29 21 := by first | exact o17 21 (by decide) | exact congrFun (f17 29 (by decide)) 21
    try have u17_5 : σ17 29 22 = σ7 29 22 := by first | exact o17 22 (by decide) | exact congrFun (f17 29 (by decide)) 22
    try have u17_6 : σ17 29 27 = σ7 29 27 := by first | exact o17 27 (by decide) | exact congrFun (f17 29 (by decide)) 27
    try have u17_7 : σ17 29 30 = σ7 29 30 := by first | exact o17 30 (by decide) | exact congrFun (f17 29 (by decide)) 30
    try have u17_8 : σ17 29 31 = σ7 29 31 := by first | exact o17 31 (by decide) | exact congrFun (f17 29 (by decide)) 31
    try have u17_9 : σ17 29 36 = σ7 29 36 := by first | exact o17 36 (by decide) | exact congrFun (f17 29 (by decide)) 36
    try have u17_10 : σ17 29 37 = σ7 29 37 := by first | exact o17 37 (by decide) | exact congrFun (f17 29 (by decide)) 37
    try have u17_11 : σ17 29 38 = σ7 29 38 := by first | exact o17 38 (by decide) | exact congrFun (f17 29 (by decide)) 38
    try have u17_12 : σ17 29 39 = σ7 29 39 := by first | exact o17 39 (by decide) | exact congrFun (f17 29 (by decide)) 39
    try have u17_13 : σ17 29 40 = σ7 29 40 := by first | exact o17 40 (by decide) | exact congrFun (f17 29 (by decide)) 40
    try have u17_14 : σ17 29 41 = σ7 29 41 := by first | exact o17 41 (by decide) | exact congrFun (f17 29 (by decide)) 41
    try have u17_15 : σ17 29 43 = σ7 29 43 := by first | exact o17 43 (by decide) | exact congrFun (f17 29 (by decide)) 43
    refine pe_aload_n d_M_setLook_20 rfl ?_
    refine pe_iload_n d_M_setLook_21 rfl ?_
    refine pe_iconst d_M_setLook_22 ?_
    refine pe_icmp_ne (t := 31) d_M_setLook_23 (by first | exact hB _ _ | exact hB0 _ _ | exact hBt _ _ | exact ⟨by omega, by omega⟩) (by first | exact hB _ _ | exact hB0 _ _ | exact hBt _ _ | exact ⟨by omega, by omega⟩) (fun h23 => ?_) (fun h23 => ?_)
    · skip
      refine pe_bipush d_M_setLook_31 ?_
      refine pe_any (fun v33 hv33 => ?_)
      refine pe_v1v d_M_setLook_33 c_M_253 i_M_put s_M_put rfl rfl (y_M_put hB (by omega) (by first | exact hB _ _ | exact hB0 _ _ | exact hBt _ _ | exact ⟨by omega, by omega⟩)) (fun σ33 hz33 => ?_)
      obtain ⟨hB, f33, o33, x33⟩ := hz33
      try have u33_0 : σ33 29 1 = σ17 29 1 := by first | exact o33 1 (by decide) | exact congrFun (f33 29 (by decide)) 1
      try have u33_1 : σ33 29 2 = σ17 29 2 := by first | exact o33 2 (by decide) | exact congrFun (f33 29 (by decide)) 2
      try have u33_2 : σ33 29 3 = σ17 29 3 := by first | exact o33 3 (by decide) | exact congrFun (f33 29 (by decide)) 3
      try have u33_3 : σ33 29 7 = σ17 29 7 := by first | exact o33 7 (by decide) | exact congrFun (f33 29 (by decide)) 7
      try have u33_4 : σ33 29 21 = σ17 29 21 := by first | exact o33 21 (by decide) | exact congrFun (f33 29 (by decide)) 21
      try have u33_5 : σ33 29 22 = σ17 29 22 := by first | exact o33 22 (by decide) | exact congrFun (f33 29 (by decide)) 22
      try have u33_6 : σ33 29 27 = σ17 29 27 := by first | exact o33 27 (by decide) | exact congrFun (f33 29 (by decide)) 27
      try have u33_7 : σ33 29 30 = σ17 29 30 := by first | exact o33 30 (by decide) | exact congrFun (f33 29 (by decide)) 30
      try have u33_8 : σ33 29 31 = σ17 29 31 := by first | exact o33 31 (by decide) | exact congrFun (f33 29 (by decide)) 31
      try have u33_9 : σ33 29 36 = σ17 29 36 := by first | exact o33 36 (by decide) | exact congrFun (f33 29 (by decide)) 36
      try have u33_10 : σ33 29 37 = σ17 29 37 := by first | exact o33 37 (by decide) | exact congrFun (f33 29 (by decide)) 37
      try have u33_11 : σ33 29 38 = σ17 29 38 := by first | exact o33 38 (by decide) | exact congrFun (f33 29 (by decide)) 38
      try have u33_12 : σ33 29 39 = σ17 29 39 := by first | exact o33 39 (by decide) | exact congrFun (f33 29 (by decide)) 39
      try have u33_13 : σ33 29 40 = σ17 29 40 := by first | exact o33 40 (by decide) | exact congrFun (f33 29 (by decide)) 40
      try have u33_14 : σ33 29 41 = σ17 29 41 := by first | exact o33 41 (by decide) | exact congrFun (f33 29 (by decide)) 41
      try have u33_15 : σ33 29 43 = σ17 29 43 := by first | exact o33 43 (by decide) | exact congrFun (f33 29 (by decide)) 43
      refine pe_aload_n d_M_setLook_36 rfl ?_
      refine pe_bipush d_M_setLook_37 ?_
      refine pe_any (fun v39 hv39 => ?_)
      refine pe_v1v d_M_setLook_39 c_M_253 i_M_put s_M_put rfl rfl (y_M_put hB (by omega) (by first | exact hB _ _ | exact hB0 _ _ | exact hBt _ _ | exact ⟨by omega, by omega⟩)) (fun σ39 hz39 => ?_)
      obtain ⟨hB, f39, o39, x39⟩ := hz39
      try have u39_0 : σ39 29 1 = σ33 29 1 := by first | exact o39 1 (by decide) | exact congrFun (f39 29 (by decide)) 1
      try have u39_1 : σ39 29 2 = σ33 29 2 := by first | exact o39 2 (by decide) | exact congrFun (f39 29 (by decide)) 2
      try have u39_2 : σ39 29 3 = σ33 29 3 := by first | exact o39 3 (by decide) | exact congrFun (f39 29 (by decide)) 3
      try have u39_3 : σ39 29 7 = σ33 29 7 := by first | exact o39 7 (by decide) | exact congrFun (f39 29 (by decide)) 7
      try have u39_4 : σ39 29 21 = σ33 29 21 := by first | exact o39 21 (by decide) | exact congrFun (f39 29 (by decide)) 21
      try have u39_5 : σ39 29 22 = σ33 29 22 := by first | exact o39 22 (by decide) | exact congrFun (f39 29 (by decide)) 22
      try have u39_6 : σ39 29 27 = σ33 29 27 := by first | exact o39 27 (by decide) | exact congrFun (f39 29 (by decide)) 27
      try have u39_7 : σ39 29 30 = σ33 29 30 := by first | exact o39 30 (by decide) | exact congrFun (f39 29 (by decide)) 30
      try have u39_8 : σ39 29 31 = σ33 29 31 := by first | exact o39 31 (by decide) | exact congrFun (f39 29 (by decide)) 31
      try have u39_9 : σ39 29 36 = σ33 29 36 := by first | exact o39 36 (by decide) | exact congrFun (f39 29 (by decide)) 36
      try have u39_10 : σ39 29 37 = σ33 29 37 := by first | exact o39 37 (by decide) | exact congrFun (f39 29 (by decide)) 37
      try have u39_11 : σ39 29 38 = σ33 29 38 := by first | exact o39 38 (by decide) | exact congrFun (f39 29 (by decide)) 38
      try have u39_12 : σ39 29 39 = σ33 29 39 := by first | exact o39 39 (by decide) | exact congrFun (f39 29 (by decide)) 39
      try have u39_13 : σ39 29 40 = σ33 29 40 := by first | exact o39 40 (by decide) | exact congrFun (f39 29 (by decide)) 40
      try have u39_14 : σ39 29 41 = σ33 29 41 := by first | exact o39 41 (by decide) | exact congrFun (f39 29 (by decide)) 41
      try have u39_15 : σ39 29 43 = σ33 29 43 := by first | exact o39 43 (by decide) | exact congrFun (f39 29 (by decide)) 43
      refine pe_aload_n d_M_setLook_42 rfl ?_
      refine pe_iload_n d_M_setLook_43 rfl ?_
      refine pe_putiT f_M_272 g_11_39 d_M_setLook_44 rfl rfl 39 rfl hB (by first | exact hB _ _ | exact hB0 _ _ | exact hBt _ _ | exact ⟨by omega, by omega⟩) (fun σ44 hB e44 o44 f44 => ?_)
      try have u44_0 : σ44 29 1 = σ39 29 1 := by first | exact o44 1 (by decide) | exact congrFun (f44 29 (by decide)) 1
      try have u44_1 : σ44 29 2 = σ39 29 2 := by first | exact o44 2 (by decide) | exact congrFun (f44 29 (by decide)) 2
      try have u44_2 : σ44 29 3 = σ39 29 3 := by first | exact o44 3 (by decide) | exact congrFun (f44 29 (by decide)) 3
      try have u44_3 : σ44 29 7 = σ39 29 7 := by first | exact o44 7 (by decide) | exact congrFun (f44 29 (by decide)) 7
      try have u44_4 : σ44 29 21 = σ39 29 21 := by first | exact o44 21 (by decide) | exact congrFun (f44 29 (by decide)) 21
      try have u44_5 : σ44 29 22 = σ39 29 22 := by first | exact o44 22 (by decide) | exact congrFun (f44 29 (by decide)) 22
      try have u44_6 : σ44 29 27 = σ39 29 27 := by first | exact o44 27 (by decide) | exact congrFun (f44 29 (by decide)) 27
      try have u44_7 : σ44 29 30 = σ39 29 30 := by first | exact o44 30 (by decide) | exact congrFun (f44 29 (by decide)) 30
      try have u44_8 : σ44 29 31 = σ39 29 31 := by first | exact o44 31 (by decide) | exact congrFun (f44 29 (by decide)) 31
      try have u44_9 : σ44 29 36 = σ39 29 36 := by first | exact o44 36 (by decide) | exact congrFun (f44 29 (by decide)) 36
      try have u44_10 : σ44 29 37 = σ39 29 37 := by first | exact o44 37 (by decide) | exact congrFun (f44 29 (by decide)) 37
      try have u44_11 : σ44 29 38 = σ39 29 38 := by first | exact o44 38 (by decide) | exact congrFun (f44 29 (by decide)) 38
      try have u44_12 : σ44 29 39 = σ39 29 39 := by first | exact o44 39 (by decide) | exact congrFun (f44 29 (by decide)) 39
      try have u44_13 : σ44 29 40 = σ39 29 40 := by first | exact o44 40 (by decide) | exact congrFun (f44 29 (by decide)) 40
      try have u44_14 : σ44 29 41 = σ39 29 41 := by first | exact o44 41 (by decide) | exact congrFun (f44 29 (by decide)) 41
      try have u44_15 : σ44 29 43 = σ39 29 43 := by first | exact o44 43 (by decide) | exact congrFun (f44 29 (by decide)) 43
      refine pe_rv d_M_setLook_47 ?_
      exact ⟨hB, (fun b hb => (f44 b (by simp at hb ⊢; try omega)).trans ((f39 b (by simp at hb ⊢; try omega)).trans ((f33 b (by simp at hb ⊢; try omega)).trans ((f17 b (by simp at hb ⊢; try omega)).trans ((f7 b (by simp at hb ⊢; try omega)).trans ((f1 b (by simp at hb ⊢; try omega)).trans (rfl))))))), (fun j hj => (o44 j (by simp at hj ⊢; try omega)).trans ((o39 j (by simp at hj ⊢; try omega)).trans ((o33 j (by simp at hj ⊢; try omega)).trans ((o17 j (by simp at hj ⊢; try omega)).trans ((o7 j (by simp at hj ⊢; try omega)).trans ((o1 j (by simp at hj ⊢; try omega)).trans (rfl))))))), by omega⟩
    · skip
      refine pe_bipush d_M_setLook_26 ?_
      refine pe_goto (t := 33) d_M_setLook_28 ?_
      refine pe_any (fun v33 hv33 => ?_)
      refine pe_v1v d_M_setLook_33 c_M_253 i_M_put s_M_put rfl rfl (y_M_put hB (by omega) (by first | exact hB _ _ | exact hB0 _ _ | exact hBt _ _ | exact ⟨by omega, by omega⟩)) (fun σ33 hz33 => ?_)
      obtain ⟨hB, f33, o33, x33⟩ := hz33
      try have u33_0 : σ33 29 1 = σ17 29 1 := by first | exact o33 1 (by decide) | exact congrFun (f33 29 (by decide)) 1
      try have u33_1 : σ33 29 2 = σ17 29 2 := by first | exact o33 2 (by decide) | exact congrFun (f33 29 (by decide)) 2
      try have u33_2 : σ33 29 3 = σ17 29 3 := by first | exact o33 3 (by decide) | exact congrFun (f33 29 (by decide)) 3
      try have u33_3 : σ33 29 7 = σ17 29 7 := by first | exact o33 7 (by decide) | exact congrFun (f33 29 (by decide)) 7
      try have u33_4 : σ33 29 21 = σ17 29 21 := by first | exact o33 21 (by decide) | exact congrFun (f33 29 (by decide)) 21
      try have u33_5 : σ33 29 22 = σ17 29 22 := by first | exact o33 22 (by decide) | exact congrFun (f33 29 (by decide)) 22
      try have u33_6 : σ33 29 27 = σ17 29 27 := by first | exact o33 27 (by decide) | exact congrFun (f33 29 (by decide)) 27
      try have u33_7 : σ33 29 30 = σ17 29 30 := by first | exact o33 30 (by decide) | exact congrFun (f33 29 (by decide)) 30
      try have u33_8 : σ33 29 31 = σ17 29 31 := by first | exact o33 31 (by decide) | exact congrFun (f33 29 (by decide)) 31
      try have u33_9 : σ33 29 36 = σ17 29 36 := by first | exact o33 36 (by decide) | exact congrFun (f33 29 (by decide)) 36
      try have u33_10 : σ33 29 37 = σ17 29 37 := by first | exact o33 37 (by decide) | exact congrFun (f33 29 (by decide)) 37
      try have u33_11 : σ33 29 38 = σ17 29 38 := by first | exact o33 38 (by decide) | exact congrFun (f33 29 (by decide)) 38
      try have u33_12 : σ33 29 39 = σ17 29 39 := by first | exact o33 39 (by decide) | exact congrFun (f33 29 (by decide)) 39
      try have u33_13 : σ33 29 40 = σ17 29 40 := by first | exact o33 40 (by decide) | exact congrFun (f33 29 (by decide)) 40
      try have u33_14 : σ33 29 41 = σ17 29 41 := by first | exact o33 41 (by decide) | exact congrFun (f33 29 (by decide)) 41
      try have u33_15 : σ33 29 43 = σ17 29 43 := by first | exact o33 43 (by decide) | exact congrFun (f33 29 (by decide)) 43
      refine pe_aload_n d_M_setLook_36 rfl ?_
      refine pe_bipush d_M_setLook_37 ?_
      refine pe_any (fun v39 hv39 => ?_)
      refine pe_v1v d_M_setLook_39 c_M_253 i_M_put s_M_put rfl rfl (y_M_put hB (by omega) (by first | exact hB _ _ | exact hB0 _ _ | exact hBt _ _ | exact ⟨by omega, by omega⟩)) (fun σ39 hz39 => ?_)
      obtain ⟨hB, f39, o39, x39⟩ := hz39
      try have u39_0 : σ39 29 1 = σ33 29 1 := by first | exact o39 1 (by decide) | exact congrFun (f39 29 (by decide)) 1
      try have u39_1 : σ39 29 2 = σ33 29 2 := by first | exact o39 2 (by decide) | exact congrFun (f39 29 (by decide)) 2
      try have u39_2 : σ39 29 3 = σ33 29 3 := by first | exact o39 3 (by decide) | exact congrFun (f39 29 (by decide)) 3
      try have u39_3 : σ39 29 7 = σ33 29 7 := by first | exact o39 7 (by decide) | exact congrFun (f39 29 (by decide)) 7
      try have u39_4 : σ39 29 21 = σ33 29 21 := by first | exact o39 21 (by decide) | exact congrFun (f39 29 (by decide)) 21
      try have u39_5 : σ39 29 22 = σ33 29 22 := by first | exact o39 22 (by decide) | exact congrFun (f39 29 (by decide)) 22
      try have u39_6 : σ39 29 27 = σ33 29 27 := by first | exact o39 27 (by decide) | exact congrFun (f39 29 (by decide)) 27
      try have u39_7 : σ39 29 30 = σ33 29 30 := by first | exact o39 30 (by decide) | exact congrFun (f39 29 (by decide)) 30
      try have u39_8 : σ39 29 31 = σ33 29 31 := by first | exact o39 31 (by decide) | exact congrFun (f39 29 (by decide)) 31
      try have u39_9 : σ39 29 36 = σ33 29 36 := by first | exact o39 36 (by decide) | exact congrFun (f39 29 (by decide)) 36
      try have u39_10 : σ39 29 37 = σ33 29 37 := by first | exact o39 37 (by decide) | exact congrFun (f39 29 (by decide)) 37
      try have u39_11 : σ39 29 38 = σ33 29 38 := by first | exact o39 38 (by decide) | exact congrFun (f39 29 (by decide)) 38
      try have u39_12 : σ39 29 39 = σ33 29 39 := by first | exact o39 39 (by decide) | exact congrFun (f39 29 (by decide)) 39
      try have u39_13 : σ39 29 40 = σ33 29 40 := by first | exact o39 40 (by decide) | exact congrFun (f39 29 (by decide)) 40
      try have u39_14 : σ39 29 41 = σ33 29 41 := by first | exact o39 41 (by decide) | exact congrFun (f39 29 (by decide)) 41
      try have u39_15 : σ39 29 43 = σ33 29 43 := by first | exact o39 43 (by decide) | exact congrFun (f39 29 (by decide)) 43
      refine pe_aload_n d_M_setLook_42 rfl ?_
      refine pe_iload_n d_M_setLook_43 rfl ?_
      refine pe_putiT f_M_272 g_11_39 d_M_setLook_44 rfl rfl 39 rfl hB (by first | exact hB _ _ | exact hB0 _ _ | exact hBt _ _ | exact ⟨by omega, by omega⟩) (fun σ44 hB e44 o44 f44 => ?_)
      try have u44_0 : σ44 29 1 = σ39 29 1 := by first | exact o44 1 (by decide) | exact congrFun (f44 29 (by decide)) 1
      try have u44_1 : σ44 29 2 = σ39 29 2 := by first | exact o44 2 (by decide) | exact congrFun (f44 29 (by decide)) 2
      try have u44_2 : σ44 29 3 = σ39 29 3 := by first | exact o44 3 (by decide) | exact congrFun (f44 29 (by decide)) 3
      try have u44_3 : σ44 29 7 = σ39 29 7 := by first | exact o44 7 (by decide) | exact congrFun (f44 29 (by decide)) 7
      try have u44_4 : σ44 29 21 = σ39 29 21 := by first | exact o44 21 (by decide) | exact congrFun (f44 29 (by decide)) 21
      try have u44_5 : σ44 29 22 = σ39 29 22 := by first | exact o44 22 (by decide) | exact congrFun (f44 29 (by decide)) 22
      try have u44_6 : σ44 29 27 = σ39 29 27 := by first | exact o44 27 (by decide) | exact congrFun (f44 29 (by decide)) 27
      try have u44_7 : σ44 29 30 = σ39 29 30 := by first | exact o44 30 (by decide) | exact congrFun (f44 29 (by decide)) 30
      try have u44_8 : σ44 29 31 = σ39 29 31 := by first | exact o44 31 (by decide) | exact congrFun (f44 29 (by decide)) 31
      try have u44_9 : σ44 29 36 = σ39 29 36 := by first | exact o44 36 (by decide) | exact congrFun (f44 29 (by decide)) 36
      try have u44_10 : σ44 29 37 = σ39 29 37 := by first | exact o44 37 (by decide) | exact congrFun (f44 29 (by decide)) 37
      try have u44_11 : σ44 29 38 = σ39 29 38 := by first | exact o44 38 (by decide) | exact congrFun (f44 29 (by decide)) 38
      try have u44_12 : σ44 29 39 = σ39 29 39 := by first | exact o44 39 (by decide) | exact congrFun (f44 29 (by decide)) 39
      try have u44_13 : σ44 29 40 = σ39 29 40 := by first | exact o44 40 (by decide) | exact congrFun (f44 29 (by decide)) 40
      try have u44_14 : σ44 29 41 = σ39 29 41 := by first | exact o44 41 (by decide) | exact congrFun (f44 29 (by decide)) 41
      try have u44_15 : σ44 29 43 = σ39 29 43 := by first | exact o44 43 (by decide) | exact congrFun (f44 29 (by decide)) 43
      refine pe_rv d_M_setLook_47 ?_
      exact ⟨hB, (fun b hb => (f44 b (by simp at hb ⊢; try omega)).trans ((f39 b (by simp at hb ⊢; try omega)).trans ((f33 b (by simp at hb ⊢; try omega)).trans ((f17 b (by simp at hb ⊢; try omega)).trans ((f7 b (by simp at hb ⊢; try omega)).trans ((f1 b (by simp at hb ⊢; try omega)).trans (rfl))))))), (fun j hj => (o44 j (by simp at hj ⊢; try omega)).trans ((o39 j (by simp at hj ⊢; try omega)).trans ((o33 j (by simp at hj ⊢; try omega)).trans ((o17 j (by simp at hj ⊢; try omega)).trans ((o7 j (by simp at hj ⊢; try omega)).trans ((o1 j (by simp at hj ⊢; try omega)).trans (rfl))))))), by omega⟩
theorem y_M_sendPlace {σ : pe_H} {r c : Int} (hB : pe_B σ) (hq : 0 ≤ σ 29 43 ∧ σ 29 43 ≤ 5800) (hr : 0 ≤ r ∧ r ≤ 7) (hc : c = 0) : pe_M m_M_sendPlace [pe_r 29, pe_i r, pe_i c] σ (pe_qv (fun σ' => pe_B σ' ∧ (∀ b, b ∉ [29, 46] → σ' b = σ b) ∧ (∀ j, j ∉ ([43] : List Int) → σ' 29 j = σ 29 j) ∧ σ' 29 43 = σ 29 43 + 6)) := by
  refine pe_in0 (lv := [some (pe_r 29), some (pe_i r), some (pe_i c)]) ?_
  have hB0 := hB
  refine pe_aload_n d_M_sendPlace_0 rfl ?_
  refine pe_v0v d_M_sendPlace_1 c_M_275 i_M_putBegin s_M_putBegin rfl rfl (y_M_putBegin hB (by omega)) (fun σ1 hz1 => ?_)
  obtain ⟨hB, f1, o1, x1⟩ := hz1
  try have u1_0 : σ1 29 1 = σ 29 1 := by first | exact o1 1 (by decide) | exact congrFun (f1 29 (by decide)) 1
  try have u1_1 : σ1 29 2 = σ 29 2 := by first | exact o1 2 (by decide) | exact congrFun (f1 29 (by decide)) 2
  try have u1_2 : σ1 29 3 = σ 29 3 := by first | exact o1 3 (by decide) | exact congrFun (f1 29 (by decide)) 3
  try have u1_3 : σ1 29 7 = σ 29 7 := by first | exact o1 7 (by decide) | exact congrFun (f1 29 (by decide)) 7
  try have u1_4 : σ1 29 21 = σ 29 21 := by first | exact o1 21 (by decide) | exact congrFun (f1 29 (by decide)) 21
  try have u1_5 : σ1 29 22 = σ 29 22 := by first | exact o1 22 (by decide) | exact congrFun (f1 29 (by decide)) 22
  try have u1_6 : σ1 29 27 = σ 29 27 := by first | exact o1 27 (by decide) | exact congrFun (f1 29 (by decide)) 27
  try have u1_7 : σ1 29 30 = σ 29 30 := by first | exact o1 30 (by decide) | exact congrFun (f1 29 (by decide)) 30
  try have u1_8 : σ1 29 31 = σ 29 31 := by first | exact o1 31 (by decide) | exact congrFun (f1 29 (by decide)) 31
  try have u1_9 : σ1 29 36 = σ 29 36 := by first | exact o1 36 (by decide) | exact congrFun (f1 29 (by decide)) 36
  try have u1_10 : σ1 29 37 = σ 29 37 := by first | exact o1 37 (by decide) | exact congrFun (f1 29 (by decide)) 37
  try have u1_11 : σ1 29 38 = σ 29 38 := by first | exact o1 38 (by decide) | exact congrFun (f1 29 (by decide)) 38
  try have u1_12 : σ1 29 39 = σ 29 39 := by first | exact o1 39 (by decide) | exact congrFun (f1 29 (by decide)) 39
  try have u1_13 : σ1 29 40 = σ 29 40 := by first | exact o1 40 (by decide) | exact congrFun (f1 29 (by decide)) 40
  try have u1_14 : σ1 29 41 = σ 29 41 := by first | exact o1 41 (by decide) | exact congrFun (f1 29 (by decide)) 41
  try have u1_15 : σ1 29 43 = σ 29 43 := by first | exact o1 43 (by decide) | exact congrFun (f1 29 (by decide)) 43
  refine pe_aload_n d_M_sendPlace_4 rfl ?_
  refine pe_iload_n d_M_sendPlace_5 rfl ?_
  refine pe_iconst d_M_sendPlace_6 ?_
  refine pe_iadd d_M_sendPlace_7 ?_
  refine pe_v1v d_M_sendPlace_8 c_M_278 i_M_putNumber s_M_putNumber rfl rfl (y_M_putNumber hB (by omega) (by omega)) (fun σ8 hz8 => ?_)
  obtain ⟨hB, f8, o8, x8⟩ := hz8
  try have u8_0 : σ8 29 1 = σ1 29 1 := by first | exact o8 1 (by decide) | exact congrFun (f8 29 (by decide)) 1
  try have u8_1 : σ8 29 2 = σ1 29 2 := by first | exact o8 2 (by decide) | exact congrFun (f8 29 (by decide)) 2
  try have u8_2 : σ8 29 3 = σ1 29 3 := by first | exact o8 3 (by decide) | exact congrFun (f8 29 (by decide)) 3
  try have u8_3 : σ8 29 7 = σ1 29 7 := by first | exact o8 7 (by decide) | exact congrFun (f8 29 (by decide)) 7
  try have u8_4 : σ8 29 21 = σ1 29 21 := by first | exact o8 21 (by decide) | exact congrFun (f8 29 (by decide)) 21
  try have u8_5 : σ8 29 22 = σ1 29 22 := by first | exact o8 22 (by decide) | exact congrFun (f8 29 (by decide)) 22
  try have u8_6 : σ8 29 27 = σ1 29 27 := by first | exact o8 27 (by decide) | exact congrFun (f8 29 (by decide)) 27
  try have u8_7 : σ8 29 30 = σ1 29 30 := by first | exact o8 30 (by decide) | exact congrFun (f8 29 (by decide)) 30
  try have u8_8 : σ8 29 31 = σ1 29 31 := by first | exact o8 31 (by decide) | exact congrFun (f8 29 (by decide)) 31
  try have u8_9 : σ8 29 36 = σ1 29 36 := by first | exact o8 36 (by decide) | exact congrFun (f8 29 (by decide)) 36
  try have u8_10 : σ8 29 37 = σ1 29 37 := by first | exact o8 37 (by decide) | exact congrFun (f8 29 (by decide)) 37
  try have u8_11 : σ8 29 38 = σ1 29 38 := by first | exact o8 38 (by decide) | exact congrFun (f8 29 (by decide)) 38
  try have u8_12 : σ8 29 39 = σ1 29 39 := by first | exact o8 39 (by decide) | exact congrFun (f8 29 (by decide)) 39
  try have u8_13 : σ8 29 40 = σ1 29 40 := by first | exact o8 40 (by decide) | exact congrFun (f8 29 (by decide)) 40
  try have u8_14 : σ8 29 41 = σ1 29 41 := by first | exact o8 41 (by decide) | exact congrFun (f8 29 (by decide)) 41
  try have u8_15 : σ8 29 43 = σ1 29 43 := by first | exact o8 43 (by decide) | exact congrFun (f8 29 (by decide)) 43
  refine pe_aload_n d_M_sendPlace_11 rfl ?_
  refine pe_bipush d_M_sendPlace_12 ?_
  refine pe_any (fun v14 hv14 => ?_)
  refine pe_v1v d_M_sendPlace_14 c_M_253 i_M_put s_M_put rfl rfl (y_M_put hB (by omega) (by first | exact hB _ _ | exact hB0 _ _ | exact hBt _ _ | exact ⟨by omega, by omega⟩)) (fun σ14 hz14 => ?_)
  obtain ⟨hB, f14, o14, x14⟩ := hz14
  try have u14_0 : σ14 29 1 = σ8 29 1 := by first | exact o14 1 (by decide) | exact congrFun (f14 29 (by decide)) 1
  try have u14_1 : σ14 29 2 = σ8 29 2 := by first | exact o14 2 (by decide) | exact congrFun (f14 29 (by decide)) 2
  try have u14_2 : σ14 29 3 = σ8 29 3 := by first | exact o14 3 (by decide) | exact congrFun (f14 29 (by decide)) 3
  try have u14_3 : σ14 29 7 = σ8 29 7 := by first | exact o14 7 (by decide) | exact congrFun (f14 29 (by decide)) 7
  try have u14_4 : σ14 29 21 = σ8 29 21 := by first | exact o14 21 (by decide) | exact congrFun (f14 29 (by decide)) 21
  try have u14_5 : σ14 29 22 = σ8 29 22 := by first | exact o14 22 (by decide) | exact congrFun (f14 29 (by decide)) 22
  try have u14_6 : σ14 29 27 = σ8 29 27 := by first | exact o14 27 (by decide) | exact congrFun (f14 29 (by decide)) 27
  try have u14_7 : σ14 29 30 = σ8 29 30 := by first | exact o14 30 (by decide) | exact congrFun (f14 29 (by decide)) 30
  try have u14_8 : σ14 29 31 = σ8 29 31 := by first | exact o14 31 (by decide) | exact congrFun (f14 29 (by decide)) 31
  try have u14_9 : σ14 29 36 = σ8 29 36 := by first | exact o14 36 (by decide) | exact congrFun (f14 29 (by decide)) 36
  try have u14_10 : σ14 29 37 = σ8 29 37 := by first | exact o14 37 (by decide) | exact congrFun (f14 29 (by decide)) 37
  try have u14_11 : σ14 29 38 = σ8 29 38 := by first | exact o14 38 (by decide) | exact congrFun (f14 29 (by decide)) 38
  try have u14_12 : σ14 29 39 = σ8 29 39 := by first | exact o14 39 (by decide) | exact congrFun (f14 29 (by decide)) 39
  try have u14_13 : σ14 29 40 = σ8 29 40 := by first | exact o14 40 (by decide) | exact congrFun (f14 29 (by decide)) 40
  try have u14_14 : σ14 29 41 = σ8 29 41 := by first | exact o14 41 (by decide) | exact congrFun (f14 29 (by decide)) 41
  try have u14_15 : σ14 29 43 = σ8 29 43 := by first | exact o14 43 (by decide) | exact congrFun (f14 29 (by decide)) 43
  refine pe_aload_n d_M_sendPlace_17 rfl ?_
  refine pe_iload_n d_M_sendPlace_18 rfl ?_
  refine pe_iconst d_M_sendPlace_19 ?_
  refine pe_iadd d_M_sendPlace_20 ?_
  refine pe_v1v d_M_sendPlace_21 c_M_278 i_M_putNumber s_M_putNumber rfl rfl (y_M_putNumber hB (by omega) (by omega)) (fun σ21 hz21 => ?_)
  obtain ⟨hB, f21, o21, x21⟩ := hz21
  try have u21_0 : σ21 29 1 = σ14 29 1 := by first | exact o21 1 (by decide) | exact congrFun (f21 29 (by decide)) 1
  try have u21_1 : σ21 29 2 = σ14 29 2 := by first | exact o21 2 (by decide) | exact congrFun (f21 29 (by decide)) 2
  try have u21_2 : σ21 29 3 = σ14 29 3 := by first | exact o21 3 (by decide) | exact congrFun (f21 29 (by decide)) 3
  try have u21_3 : σ21 29 7 = σ14 29 7 := by first | exact o21 7 (by decide) | exact congrFun (f21 29 (by decide)) 7
  try have u21_4 : σ21 29 21 = σ14 29 21 := by first | exact o21 21 (by decide) | exact congrFun (f21 29 (by decide)) 21
  try have u21_5 : σ21 29 22 = σ14 29 22 := by first | exact o21 22 (by decide) | exact congrFun (f21 29 (by decide)) 22
  try have u21_6 : σ21 29 27 = σ14 29 27 := by first | exact o21 27 (by decide) | exact congrFun (f21 29 (by decide)) 27
  try have u21_7 : σ21 29 30 = σ14 29 30 := by first | exact o21 30 (by decide) | exact congrFun (f21 29 (by decide)) 30
  try have u21_8 : σ21 29 31 = σ14 29 31 := by first | exact o21 31 (by decide) | exact congrFun (f21 29 (by decide)) 31
  try have u21_9 : σ21 29 36 = σ14 29 36 := by first | exact o21 36 (by decide) | exact congrFun (f21 29 (by decide)) 36
  try have u21_10 : σ21 29 37 = σ14 29 37 := by first | exact o21 37 (by decide) | exact congrFun (f21 29 (by decide)) 37
  try have u21_11 : σ21 29 38 = σ14 29 38 := by first | exact o21 38 (by decide) | exact congrFun (f21 29 (by decide)) 38
  try have u21_12 : σ21 29 39 = σ14 29 39 := by first | exact o21 39 (by decide) | exact congrFun (f21 29 (by decide)) 39
  try have u21_13 : σ21 29 40 = σ14 29 40 := by first | exact o21 40 (by decide) | exact congrFun (f21 29 (by decide)) 40
  try have u21_14 : σ21 29 41 = σ14 29 41 := by first | exact o21 41 (by decide) | exact congrFun (f21 29 (by decide)) 41
  try have u21_15 : σ21 29 43 = σ14 29 43 := by first | exact o21 43 (by decide) | exact congrFun (f21 29 (by decide)) 43
  refine pe_aload_n d_M_sendPlace_24 rfl ?_
  refine pe_bipush d_M_sendPlace_25 ?_
  refine pe_any (fun v27 hv27 => ?_)
  refine pe_v1v d_M_sendPlace_27 c_M_253 i_M_put s_M_put rfl rfl (y_M_put hB (by omega) (by first | exact hB _ _ | exact hB0 _ _ | exact hBt _ _ | exact ⟨by omega, by omega⟩)) (fun σ27 hz27 => ?_)
  obtain ⟨hB, f27, o27, x27⟩ := hz27
  try have u27_0 : σ27 29 1 = σ21 29 1 := by first | exact o27 1 (by decide) | exact congrFun (f27 29 (by decide)) 1
  try have u27_1 : σ27 29 2 = σ21 29 2 := by first | exact o27 2 (by decide) | exact congrFun (f27 29 (by decide)) 2
  try have u27_2 : σ27 29 3 = σ21 29 3 := by first | exact o27 3 (by decide) | exact congrFun (f27 29 (by decide)) 3
  try have u27_3 : σ27 29 7 = σ21 29 7 := by first | exact o27 7 (by decide) | exact congrFun (f27 29 (by decide)) 7
  try have u27_4 : σ27 29 21 = σ21 29 21 := by first | exact o27 21 (by decide) | exact congrFun (f27 29 (by decide)) 21
  try have u27_5 : σ27 29 22 = σ21 29 22 := by first | exact o27 22 (by decide) | exact congrFun (f27 29 (by decide)) 22
  try have u27_6 : σ27 29 27 = σ21 29 27 := by first | exact o27 27 (by decide) | exact congrFun (f27 29 (by decide)) 27
  try have u27_7 : σ27 29 30 = σ21 29 30 := by first | exact o27 30 (by decide) | exact congrFun (f27 29 (by decide)) 30
  try have u27_8 : σ27 29 31 = σ21 29 31 := by first | exact o27 31 (by decide) | exact congrFun (f27 29 (by decide)) 31
  try have u27_9 : σ27 29 36 = σ21 29 36 := by first | exact o27 36 (by decide) | exact congrFun (f27 29 (by decide)) 36
  try have u27_10 : σ27 29 37 = σ21 29 37 := by first | exact o27 37 (by decide) | exact congrFun (f27 29 (by decide)) 37
  try have u27_11 : σ27 29 38 = σ21 29 38 := by first | exact o27 38 (by decide) | exact congrFun (f27 29 (by decide)) 38
  try have u27_12 : σ27 29 39 = σ21 29 39 := by first | exact o27 39 (by decide) | exact congrFun (f27 29 (by decide)) 39
  try have u27_13 : σ27 29 40 = σ21 29 40 := by first | exact o27 40 (by decide) | exact congrFun (f27 29 (by decide)) 40
  try have u27_14 : σ27 29 41 = σ21 29 41 := by first | exact o27 41 (by decide) | exact congrFun (f27 29 (by decide)) 41
  try have u27_15 : σ27 29 43 = σ21 29 43 := by first | exact o27 43 (by decide) | exact congrFun (f27 29 (by decide)) 43
  refine pe_rv d_M_sendPlace_30 ?_
  exact ⟨hB, (fun b hb => (f27 b (by simp at hb ⊢; try omega)).trans ((f21 b (by simp at hb ⊢; try omega)).trans ((f14 b (by simp at hb ⊢; try omega)).trans ((f8 b (by simp at hb ⊢; try omega)).trans ((f1 b (by simp at hb ⊢; try omega)).trans (rfl)))))), (fun j hj => (o27 j (by simp at hj ⊢; try omega)).trans ((o21 j (by simp at hj ⊢; try omega)).trans ((o14 j (by simp at hj ⊢; try omega)).trans ((o8 j (by simp at hj ⊢; try omega)).trans ((o1 j (by simp at hj ⊢; try omega)).trans (rfl)))))), by omega⟩
theorem y_M_go {σ : pe_H} {r c s : Int} (hB : pe_B σ) (hq : 0 ≤ σ 29 43 ∧ σ 29 43 ≤ 5800) (hr : 0 ≤ r ∧ r ≤ 7) (hc : 0 ≤ c ∧ c ≤ 24) (hs : s = 0) (ha : (σ 29 36 = r ∧ σ 29 37 = c ∧ σ 29 38 = 0) ∨ (σ 29 36 ≠ r ∧ c = 0 ∧ 0 ≤ σ 29 36 ∧ σ 29 36 ≤ 7)) : pe_M m_M_go [pe_r 29, pe_i r, pe_i c, pe_i s] σ (pe_qv (fun σ' => pe_B σ' ∧ (∀ b, b ∉ [29, 46] → σ' b = σ b) ∧ (∀ j, j ∉ ([36, 37, 38, 40, 43] : List Int) → σ' 29 j = σ 29 j) ∧ (σ' 29 36 = r ∧ σ' 29 37 = c ∧ σ' 29 38 = 0) ∧ ∃ d, σ' 29 43 = σ 29 43 + d ∧ ((σ 29 36 = r ∧ d = 0) ∨ (σ 29 36 ≠ r ∧ r = σ 29 36 + 1 ∧ d = 2) ∨ (σ 29 36 ≠ r ∧ r ≠ σ 29 36 + 1 ∧ d = 6)))) := by
  refine pe_in0 (lv := [some (pe_r 29), some (pe_i r), some (pe_i c), some (pe_i s), none]) ?_
  have hB0 := hB
  have J30 : ∀ t : Int, ((t = 0 ∨ t = 1) ∧ (t = 1 ↔ σ 29 36 = r)) → pe_G m_M_go 30 [some (pe_r 29), some (pe_i r), some (pe_i c), some (pe_i s), some (pe_i t)] [] σ (pe_qv (fun σ' => pe_B σ' ∧ (∀ b, b ∉ [29, 46] → σ' b = σ b) ∧ (∀ j, j ∉ ([36, 37, 38, 40, 43] : List Int) → σ' 29 j = σ 29 j) ∧ (σ' 29 36 = r ∧ σ' 29 37 = c ∧ σ' 29 38 = 0) ∧ ∃ d, σ' 29 43 = σ 29 43 + d ∧ ((σ 29 36 = r ∧ d = 0) ∨ (σ 29 36 ≠ r ∧ r = σ 29 36 + 1 ∧ d = 2) ∨ (σ 29 36 ≠ r ∧ r ≠ σ 29 36 + 1 ∧ d = 6)))) := by
    intro t hI
    refine pe_iload d_M_go_30 rfl ?_
    refine pe_if_eq (t := 40) d_M_go_32 (by first | exact hB _ _ | exact hB0 _ _ | exact hBt _ _ | exact ⟨by omega, by omega⟩) (fun h32 => ?_) (fun h32 => ?_)
    · skip
      refine pe_iload_n d_M_go_40 rfl ?_
      refine pe_if_eq (t := 53) d_M_go_41 (by first | exact hB _ _ | exact hB0 _ _ | exact hBt _ _ | exact ⟨by omega, by omega⟩) (fun h41 => ?_) (fun h41 => ?_)
      · skip
        refine pe_iload_n d_M_go_53 rfl ?_
        refine pe_aload_n d_M_go_54 rfl ?_
        refine pe_geti f_M_263 d_M_go_55 rfl rfl 36 rfl ?_
        refine pe_icmp_ne (t := 109) d_M_go_58 (by first | exact hB _ _ | exact hB0 _ _ | exact hBt _ _ | exact ⟨by omega, by omega⟩) (by first | exact hB _ _ | exact hB0 _ _ | exact hBt _ _ | exact ⟨by omega, by omega⟩) (fun h58 => ?_) (fun h58 => ?_)
        · skip
          refine pe_iload_n d_M_go_109 rfl ?_
          refine pe_aload_n d_M_go_110 rfl ?_
          refine pe_geti f_M_263 d_M_go_111 rfl rfl 36 rfl ?_
          refine pe_icmp_ne (t := 130) d_M_go_114 (by first | exact hB _ _ | exact hB0 _ _ | exact hBt _ _ | exact ⟨by omega, by omega⟩) (by first | exact hB _ _ | exact hB0 _ _ | exact hBt _ _ | exact ⟨by omega, by omega⟩) (fun h114 => ?_) (fun h114 => ?_)
          · skip
            refine pe_iload_n d_M_go_130 rfl ?_
            refine pe_aload_n d_M_go_131 rfl ?_
            refine pe_geti f_M_263 d_M_go_132 rfl rfl 36 rfl ?_
            refine pe_iconst d_M_go_135 ?_
            refine pe_iadd d_M_go_136 ?_
            refine pe_icmp_ne (t := 159) d_M_go_137 (by first | exact hB _ _ | exact hB0 _ _ | exact hBt _ _ | exact ⟨by omega, by omega⟩) (by first | exact hB _ _ | exact hB0 _ _ | exact hBt _ _ | exact ⟨by omega, by omega⟩) (fun h137 => ?_) (fun h137 => ?_)
            · skip
              refine pe_aload_n d_M_go_159 rfl ?_
              refine pe_iload_n d_M_go_160 rfl ?_
              refine pe_iload_n d_M_go_161 rfl ?_
              refine pe_v2v d_M_go_162 c_M_281 i_M_sendPlace s_M_sendPlace rfl rfl (y_M_sendPlace hB (by omega) (by omega) (by omega)) (fun σ162 hz162 => ?_)
              obtain ⟨hB, f162, o162, x162⟩ := hz162
              try have u162_0 : σ162 29 1 = σ 29 1 := by first | exact o162 1 (by decide) | exact congrFun (f162 29 (by decide)) 1
              try have u162_1 : σ162 29 2 = σ 29 2 := by first | exact o162 2 (by decide) | exact congrFun (f162 29 (by decide)) 2
              try have u162_2 : σ162 29 3 = σ 29 3 := by first | exact o162 3 (by decide) | exact congrFun (f162 29 (by decide)) 3
              try have u162_3 : σ162 29 7 = σ 29 7 := by first | exact o162 7 (by decide) | exact congrFun (f162 29 (by decide)) 7
              try have u162_4 : σ162 29 21 = σ 29 21 := by first | exact o162 21 (by decide) | exact congrFun (f162 29 (by decide)) 21
              try have u162_5 : σ162 29 22 = σ 29 22 := by first | exact o162 22 (by decide) | exact congrFun (f162 29 (by decide)) 22
              try have u162_6 : σ162 29 27 = σ 29 27 := by first | exact o162 27 (by decide) | exact congrFun (f162 29 (by decide)) 27
              try have u162_7 : σ162 29 30 = σ 29 30 := by first | exact o162 30 (by decide) | exact congrFun (f162 29 (by decide)) 30
              try have u162_8 : σ162 29 31 = σ 29 31 := by first | exact o162 31 (by decide) | exact congrFun (f162 29 (by decide)) 31
              try have u162_9 : σ162 29 36 = σ 29 36 := by first | exact o162 36 (by decide) | exact congrFun (f162 29 (by decide)) 36
              try have u162_10 : σ162 29 37 = σ 29 37 := by first | exact o162 37 (by decide) | exact congrFun (f162 29 (by decide)) 37
              try have u162_11 : σ162 29 38 = σ 29 38 := by first | exact o162 38 (by decide) | exact congrFun (f162 29 (by decide)) 38
              try have u162_12 : σ162 29 39 = σ 29 39 := by first | exact o162 39 (by decide) | exact congrFun (f162 29 (by decide)) 39
              try have u162_13 : σ162 29 40 = σ 29 40 := by first | exact o162 40 (by decide) | exact congrFun (f162 29 (by decide)) 40
              try have u162_14 : σ162 29 41 = σ 29 41 := by first | exact o162 41 (by decide) | exact congrFun (f162 29 (by decide)) 41
              try have u162_15 : σ162 29 43 = σ 29 43 := by first | exact o162 43 (by decide) | exact congrFun (f162 29 (by decide)) 43
              refine pe_aload_n d_M_go_165 rfl ?_
              refine pe_iload_n d_M_go_166 rfl ?_
              refine pe_putiT f_M_263 g_11_36 d_M_go_167 rfl rfl 36 rfl hB (by first | exact hB _ _ | exact hB0 _ _ | exact hBt _ _ | exact ⟨by omega, by omega⟩) (fun σ167 hB e167 o167 f167 => ?_)
              try have u167_0 : σ167 29 1 = σ162 29 1 := by first | exact o167 1 (by decide) | exact congrFun (f167 29 (by decide)) 1
              try have u167_1 : σ167 29 2 = σ162 29 2 := by first | exact o167 2 (by decide) | exact congrFun (f167 29 (by decide)) 2
              try have u167_2 : σ167 29 3 = σ162 29 3 := by first | exact o167 3 (by decide) | exact congrFun (f167 29 (by decide)) 3
              try have u167_3 : σ167 29 7 = σ162 29 7 := by first | exact o167 7 (by decide) | exact congrFun (f167 29 (by decide)) 7
              try have u167_4 : σ167 29 21 = σ162 29 21 := by first | exact o167 21 (by decide) | exact congrFun (f167 29 (by decide)) 21
              try have u167_5 : σ167 29 22 = σ162 29 22 := by first | exact o167 22 (by decide) | exact congrFun (f167 29 (by decide)) 22
              try have u167_6 : σ167 29 27 = σ162 29 27 := by first | exact o167 27 (by decide) | exact congrFun (f167 29 (by decide)) 27
              try have u167_7 : σ167 29 30 = σ162 29 30 := by first | exact o167 30 (by decide) | exact congrFun (f167 29 (by decide)) 30
              try have u167_8 : σ167 29 31 = σ162 29 31 := by first | exact o167 31 (by decide) | exact congrFun (f167 29 (by decide)) 31
              try have u167_9 : σ167 29 36 = σ162 29 36 := by first | exact o167 36 (by decide) | exact congrFun (f167 29 (by decide)) 36
              try have u167_10 : σ167 29 37 = σ162 29 37 := by first | exact o167 37 (by decide) | exact congrFun (f167 29 (by decide)) 37
              try have u167_11 : σ167 29 38 = σ162 29 38 := by first | exact o167 38 (by decide) | exact congrFun (f167 29 (by decide)) 38
              try have u167_12 : σ167 29 39 = σ162 29 39 := by first | exact o167 39 (by decide) | exact congrFun (f167 29 (by decide)) 39
              try have u167_13 : σ167 29 40 = σ162 29 40 := by first | exact o167 40 (by decide) | exact congrFun (f167 29 (by decide)) 40
              try have u167_14 : σ167 29 41 = σ162 29 41 := by first | exact o167 41 (by decide) | exact congrFun (f167 29 (by decide)) 41
              try have u167_15 : σ167 29 43 = σ162 29 43 := by first | exact o167 43 (by decide) | exact congrFun (f167 29 (by decide)) 43
              refine pe_aload_n d_M_go_170 rfl ?_
              refine pe_iload_n d_M_go_171 rfl ?_
              refine pe_putiT f_M_266 g_11_37 d_M_go_172 rfl rfl 37 rfl hB (by first | exact hB _ _ | exact hB0 _ _ | exact hBt _ _ | exact ⟨by omega, by omega⟩) (fun σ172 hB e172 o172 f172 => ?_)
              try have u172_0 : σ172 29 1 = σ167 29 1 := by first | exact o172 1 (by decide) | exact congrFun (f172 29 (by decide)) 1
              try have u172_1 : σ172 29 2 = σ167 29 2 := by first | exact o172 2 (by decide) | exact congrFun (f172 29 (by decide)) 2
              try have u172_2 : σ172 29 3 = σ167 29 3 := by first | exact o172 3 (by decide) | exact congrFun (f172 29 (by decide)) 3
              try have u172_3 : σ172 29 7 = σ167 29 7 := by first | exact o172 7 (by decide) | exact congrFun (f172 29 (by decide)) 7
              try have u172_4 : σ172 29 21 = σ167 29 21 := by first | exact o172 21 (by decide) | exact congrFun (f172 29 (by decide)) 21
              try have u172_5 : σ172 29 22 = σ167 29 22 := by first | exact o172 22 (by decide) | exact congrFun (f172 29 (by decide)) 22
              try have u172_6 : σ172 29 27 = σ167 29 27 := by first | exact o172 27 (by decide) | exact congrFun (f172 29 (by decide)) 27
              try have u172_7 : σ172 29 30 = σ167 29 30 := by first | exact o172 30 (by decide) | exact congrFun (f172 29 (by decide)) 30
              try have u172_8 : σ172 29 31 = σ167 29 31 := by first | exact o172 31 (by decide) | exact congrFun (f172 29 (by decide)) 31
              try have u172_9 : σ172 29 36 = σ167 29 36 := by first | exact o172 36 (by decide) | exact congrFun (f172 29 (by decide)) 36
              try have u172_10 : σ172 29 37 = σ167 29 37 := by first | exact o172 37 (by decide) | exact congrFun (f172 29 (by decide)) 37
              try have u172_11 : σ172 29 38 = σ167 29 38 := by first | exact o172 38 (by decide) | exact congrFun (f172 29 (by decide)) 38
              try have u172_12 : σ172 29 39 = σ167 29 39 := by first | exact o172 39 (by decide) | exact congrFun (f172 29 (by decide)) 39
              try have u172_13 : σ172 29 40 = σ167 29 40 := by first | exact o172 40 (by decide) | exact congrFun (f172 29 (by decide)) 40
              try have u172_14 : σ172 29 41 = σ167 29 41 := by first | exact o172 41 (by decide) | exact congrFun (f172 29 (by decide)) 41
              try have u172_15 : σ172 29 43 = σ167 29 43 := by first | exact o172 43 (by decide) | exact congrFun (f172 29 (by decide)) 43
              refine pe_aload_n d_M_go_175 rfl ?_
              refine pe_iconst d_M_go_176 ?_
              refine pe_putzT f_M_260 g_11_38 d_M_go_177 rfl rfl (by first | exact Or.inl rfl | exact Or.inr rfl | omega) 38 rfl hB (fun σ177 hB e177 o177 f177 => ?_)
              try have u177_0 : σ177 29 1 = σ172 29 1 := by first | exact o177 1 (by decide) | exact congrFun (f177 29 (by decide)) 1
              try have u177_1 : σ177 29 2 = σ172 29 2 := by first | exact o177 2 (by decide) | exact congrFun (f177 29 (by decide)) 2
              try have u177_2 : σ177 29 3 = σ172 29 3 := by first | exact o177 3 (by decide) | exact congrFun (f177 29 (by decide)) 3
              try have u177_3 : σ177 29 7 = σ172 29 7 := by first | exact o177 7 (by decide) | exact congrFun (f177 29 (by decide)) 7
              try have u177_4 : σ177 29 21 = σ172 29 21 := by first | exact o177 21 (by decide) | exact congrFun (f177 29 (by decide)) 21
              try have u177_5 : σ177 29 22 = σ172 29 22 := by first | exact o177 22 (by decide) | exact congrFun (f177 29 (by decide)) 22
              try have u177_6 : σ177 29 27 = σ172 29 27 := by first | exact o177 27 (by decide) | exact congrFun (f177 29 (by decide)) 27
              try have u177_7 : σ177 29 30 = σ172 29 30 := by first | exact o177 30 (by decide) | exact congrFun (f177 29 (by decide)) 30
              try have u177_8 : σ177 29 31 = σ172 29 31 := by first | exact o177 31 (by decide) | exact congrFun (f177 29 (by decide)) 31
              try have u177_9 : σ177 29 36 = σ172 29 36 := by first | exact o177 36 (by decide) | exact congrFun (f177 29 (by decide)) 36
              try have u177_10 : σ177 29 37 = σ172 29 37 := by first | exact o177 37 (by decide) | exact congrFun (f177 29 (by decide)) 37
              try have u177_11 : σ177 29 38 = σ172 29 38 := by first | exact o177 38 (by decide) | exact congrFun (f177 29 (by decide)) 38
              try have u177_12 : σ177 29 39 = σ172 29 39 := by first | exact o177 39 (by decide) | exact congrFun (f177 29 (by decide)) 39
              try have u177_13 : σ177 29 40 = σ172 29 40 := by first | exact o177 40 (by decide) | exact congrFun (f177 29 (by decide)) 40
              try have u177_14 : σ177 29 41 = σ172 29 41 := by first | exact o177 41 (by decide) | exact congrFun (f177 29 (by decide)) 41
              try have u177_15 : σ177 29 43 = σ172 29 43 := by first | exact o177 43 (by decide) | exact congrFun (f177 29 (by decide)) 43
              refine pe_aload_n d_M_go_180 rfl ?_
              refine pe_iconst d_M_go_181 ?_
              refine pe_putiT f_M_68 g_11_40 d_M_go_182 rfl rfl 40 rfl hB (by first | exact hB _ _ | exact hB0 _ _ | exact hBt _ _ | exact ⟨by omega, by omega⟩) (fun σ182 hB e182 o182 f182 => ?_)
              try have u182_0 : σ182 29 1 = σ177 29 1 := by first | exact o182 1 (by decide) | exact congrFun (f182 29 (by decide)) 1
              try have u182_1 : σ182 29 2 = σ177 29 2 := by first | exact o182 2 (by decide) | exact congrFun (f182 29 (by decide)) 2
              try have u182_2 : σ182 29 3 = σ177 29 3 := by first | exact o182 3 (by decide) | exact congrFun (f182 29 (by decide)) 3
              try have u182_3 : σ182 29 7 = σ177 29 7 := by first | exact o182 7 (by decide) | exact congrFun (f182 29 (by decide)) 7
              try have u182_4 : σ182 29 21 = σ177 29 21 := by first | exact o182 21 (by decide) | exact congrFun (f182 29 (by decide)) 21
              try have u182_5 : σ182 29 22 = σ177 29 22 := by first | exact o182 22 (by decide) | exact congrFun (f182 29 (by decide)) 22
              try have u182_6 : σ182 29 27 = σ177 29 27 := by first | exact o182 27 (by decide) | exact congrFun (f182 29 (by decide)) 27
              try have u182_7 : σ182 29 30 = σ177 29 30 := by first | exact o182 30 (by decide) | exact congrFun (f182 29 (by decide)) 30
              try have u182_8 : σ182 29 31 = σ177 29 31 := by first | exact o182 31 (by decide) | exact congrFun (f182 29 (by decide)) 31
              try have u182_9 : σ182 29 36 = σ177 29 36 := by first | exact o182 36 (by decide) | exact congrFun (f182 29 (by decide)) 36
              try have u182_10 : σ182 29 37 = σ177 29 37 := by first | exact o182 37 (by decide) | exact congrFun (f182 29 (by decide)) 37
              try have u182_11 : σ182 29 38 = σ177 29 38 := by first | exact o182 38 (by decide) | exact congrFun (f182 29 (by decide)) 38
              try have u182_12 : σ182 29 39 = σ177 29 39 := by first | exact o182 39 (by decide) | exact congrFun (f182 29 (by decide)) 39
              try have u182_13 : σ182 29 40 = σ177 29 40 := by first | exact o182 40 (by decide) | exact congrFun (f182 29 (by decide)) 40
              try have u182_14 : σ182 29 41 = σ177 29 41 := by first | exact o182 41 (by decide) | exact congrFun (f182 29 (by decide)) 41
              try have u182_15 : σ182 29 43 = σ177 29 43 := by first | exact o182 43 (by decide) | exact congrFun (f182 29 (by decide)) 43
              refine pe_rv d_M_go_185 ?_
              first | (exfalso; omega) | exact ⟨hB, (fun b hb => (f182 b (by simp at hb ⊢; try omega)).trans ((f177 b (by simp at hb ⊢; try omega)).trans ((f172 b (by simp at hb ⊢; try omega)).trans ((f167 b (by simp at hb ⊢; try omega)).trans ((f162 b (by simp at hb ⊢; try omega)).trans (rfl)))))), (fun j hj => (o182 j (by simp at hj ⊢; try omega)).trans ((o177 j (by simp at hj ⊢; try omega)).trans ((o172 j (by simp at hj ⊢; try omega)).trans ((o167 j (by simp at hj ⊢; try omega)).trans ((o162 j (by simp at hj ⊢; try omega)).trans (rfl)))))), by omega, 2, by omega, by omega⟩ | exact ⟨hB, (fun b hb => (f182 b (by simp at hb ⊢; try omega)).trans ((f177 b (by simp at hb ⊢; try omega)).trans ((f172 b (by simp at hb ⊢; try omega)).trans ((f167 b (by simp at hb ⊢; try omega)).trans ((f162 b (by simp at hb ⊢; try omega)).trans (rfl)))))), (fun j hj => (o182 j (by simp at hj ⊢; try omega)).trans ((o177 j (by simp at hj ⊢; try omega)).trans ((o172 j (by simp at hj ⊢; try omega)).trans ((o167 j (by simp at hj ⊢; try omega)).trans ((o162 j (by simp at hj ⊢; try omega)).trans (rfl)))))), by omega, 6, by omega, by omega⟩
            · skip
              refine pe_iload_n d_M_go_140 rfl ?_
              refine pe_if_ne (t := 159) d_M_go_141 (by first | exact hB _ _ | exact hB0 _ _ | exact hBt _ _ | exact ⟨by omega, by omega⟩) (fun h141 => ?_) (fun h141 => ?_)
              · skip
                refine pe_aload_n d_M_go_159 rfl ?_
                refine pe_iload_n d_M_go_160 rfl ?_
                refine pe_iload_n d_M_go_161 rfl ?_
                refine pe_v2v d_M_go_162 c_M_281 i_M_sendPlace s_M_sendPlace rfl rfl (y_M_sendPlace hB (by omega) (by omega) (by omega)) (fun σ162 hz162 => ?_)
                obtain ⟨hB, f162, o162, x162⟩ := hz162
                try have u162_0 : σ162 29 1 = σ 29 1 := by first | exact o162 1 (by decide) | exact congrFun (f162 29 (by decide)) 1
                try have u162_1 : σ162 29 2 = σ 29 2 := by first | exact o162 2 (by decide) | exact congrFun (f162 29 (by decide)) 2
                try have u162_2 : σ162 29 3 = σ 29 3 := by first | exact o162 3 (by decide) | exact congrFun (f162 29 (by decide)) 3
                try have u162_3 : σ162 29 7 = σ 29 7 := by first | exact o162 7 (by decide) | exact congrFun (f162 29 (by decide)) 7
                try have u162_4 : σ162 29 21 = σ 29 21 := by first | exact o162 21 (by decide) | exact congrFun (f162 29 (by decide)) 21
                try have u162_5 : σ162 29 22 = σ 29 22 := by first | exact o162 22 (by decide) | exact congrFun (f162 29 (by decide)) 22
                try have u162_6 : σ162 29 27 = σ 29 27 := by first | exact o162 27 (by decide) | exact congrFun (f162 29 (by decide)) 27
                try have u162_7 : σ162 29 30 = σ 29 30 := by first | exact o162 30 (by decide) | exact congrFun (f162 29 (by decide)) 30
                try have u162_8 : σ162 29 31 = σ 29 31 := by first | exact o162 31 (by decide) | exact congrFun (f162 29 (by decide)) 31
                try have u162_9 : σ162 29 36 = σ 29 36 := by first | exact o162 36 (by decide) | exact congrFun (f162 29 (by decide)) 36
                try have u162_10 : σ162 29 37 = σ 29 37 := by first | exact o162 37 (by decide) | exact congrFun (f162 29 (by decide)) 37
                try have u162_11 : σ162 29 38 = σ 29 38 := by first | exact o162 38 (by decide) | exact congrFun (f162 29 (by decide)) 38
                try have u162_12 : σ162 29 39 = σ 29 39 := by first | exact o162 39 (by decide) | exact congrFun (f162 29 (by decide)) 39
                try have u162_13 : σ162 29 40 = σ 29 40 := by first | exact o162 40 (by decide) | exact congrFun (f162 29 (by decide)) 40
                try have u162_14 : σ162 29 41 = σ 29 41 := by first | exact o162 41 (by decide) | exact congrFun (f162 29 (by decide)) 41
                try have u162_15 : σ162 29 43 = σ 29 43 := by first | exact o162 43 (by decide) | exact congrFun (f162 29 (by decide)) 43
                refine pe_aload_n d_M_go_165 rfl ?_
                refine pe_iload_n d_M_go_166 rfl ?_
                refine pe_putiT f_M_263 g_11_36 d_M_go_167 rfl rfl 36 rfl hB (by first | exact hB _ _ | exact hB0 _ _ | exact hBt _ _ | exact ⟨by omega, by omega⟩) (fun σ167 hB e167 o167 f167 => ?_)
                try have u167_0 : σ167 29 1 = σ162 29 1 := by first | exact o167 1 (by decide) | exact congrFun (f167 29 (by decide)) 1
                try have u167_1 : σ167 29 2 = σ162 29 2 := by first | exact o167 2 (by decide) | exact congrFun (f167 29 (by decide)) 2
                try have u167_2 : σ167 29 3 = σ162 29 3 := by first | exact o167 3 (by decide) | exact congrFun (f167 29 (by decide)) 3
                try have u167_3 : σ167 29 7 = σ162 29 7 := by first | exact o167 7 (by decide) | exact congrFun (f167 29 (by decide)) 7
                try have u167_4 : σ167 29 21 = σ162 29 21 := by first | exact o167 21 (by decide) | exact congrFun (f167 29 (by decide)) 21
                try have u167_5 : σ167 29 22 = σ162 29 22 := by first | exact o167 22 (by decide) | exact congrFun (f167 29 (by decide)) 22
                try have u167_6 : σ167 29 27 = σ162 29 27 := by first | exact o167 27 (by decide) | exact congrFun (f167 29 (by decide)) 27
                try have u167_7 : σ167 29 30 = σ162 29 30 := by first | exact o167 30 (by decide) | exact congrFun (f167 29 (by decide)) 30
                try have u167_8 : σ167 29 31 = σ162 29 31 := by first | exact o167 31 (by decide) | exact congrFun (f167 29 (by decide)) 31
                try have u167_9 : σ167 29 36 = σ162 29 36 := by first | exact o167 36 (by decide) | exact congrFun (f167 29 (by decide)) 36
                try have u167_10 : σ167 29 37 = σ162 29 37 := by first | exact o167 37 (by decide) | exact congrFun (f167 29 (by decide)) 37
                try have u167_11 : σ167 29 38 = σ162 29 38 := by first | exact o167 38 (by decide) | exact congrFun (f167 29 (by decide)) 38
                try have u167_12 : σ167 29 39 = σ162 29 39 := by first | exact o167 39 (by decide) | exact congrFun (f167 29 (by decide)) 39
                try have u167_13 : σ167 29 40 = σ162 29 40 := by first | exact o167 40 (by decide) | exact congrFun (f167 29 (by decide)) 40
                try have u167_14 : σ167 29 41 = σ162 29 41 := by first | exact o167 41 (by decide) | exact congrFun (f167 29 (by decide)) 41
                try have u167_15 : σ167 29 43 = σ162 29 43 := by first | exact o167 43 (by decide) | exact congrFun (f167 29 (by decide)) 43
                refine pe_aload_n d_M_go_170 rfl ?_
                refine pe_iload_n d_M_go_171 rfl ?_
                refine pe_putiT f_M_266 g_11_37 d_M_go_172 rfl rfl 37 rfl hB (by first | exact hB _ _ | exact hB0 _ _ | exact hBt _ _ | exact ⟨by omega, by omega⟩) (fun σ172 hB e172 o172 f172 => ?_)
                try have u172_0 : σ172 29 1 = σ167 29 1 := by first | exact o172 1 (by decide) | exact congrFun (f172 29 (by decide)) 1
                try have u172_1 : σ172 29 2 = σ167 29 2 := by first | exact o172 2 (by decide) | exact congrFun (f172 29 (by decide)) 2
                try have u172_2 : σ172 29 3 = σ167 29 3 := by first | exact o172 3 (by decide) | exact congrFun (f172 29 (by decide)) 3
                try have u172_3 : σ172 29 7 = σ167 29 7 := by first | exact o172 7 (by decide) | exact congrFun (f172 29 (by decide)) 7
                try have u172_4 : σ172 29 21 = σ167 29 21 := by first | exact o172 21 (by decide) | exact congrFun (f172 29 (by decide)) 21
                try have u172_5 : σ172 29 22 = σ167 29 22 := by first | exact o172 22 (by decide) | exact congrFun (f172 29 (by decide)) 22
                try have u172_6 : σ172 29 27 = σ167 29 27 := by first | exact o172 27 (by decide) | exact congrFun (f172 29 (by decide)) 27
                try have u172_7 : σ172 29 30 = σ167 29 30 := by first | exact o172 30 (by decide) | exact congrFun (f172 29 (by decide)) 30
                try have u172_8 : σ172 29 31 = σ167 29 31 := by first | exact o172 31 (by decide) | exact congrFun (f172 29 (by decide)) 31
                try have u172_9 : σ172 29 36 = σ167 29 36 := by first | exact o172 36 (by decide) | exact congrFun (f172 29 (by decide)) 36
                try have u172_10 : σ172 29 37 = σ167 29 37 := by first | exact o172 37 (by decide) | exact congrFun (f172 29 (by decide)) 37
                try have u172_11 : σ172 29 38 = σ167 29 38 := by first | exact o172 38 (by decide) | exact congrFun (f172 29 (by decide)) 38
                try have u172_12 : σ172 29 39 = σ167 29 39 := by first | exact o172 39 (by decide) | exact congrFun (f172 29 (by decide)) 39
                try have u172_13 : σ172 29 40 = σ167 29 40 := by first | exact o172 40 (by decide) | exact congrFun (f172 29 (by decide)) 40
                try have u172_14 : σ172 29 41 = σ167 29 41 := by first | exact o172 41 (by decide) | exact congrFun (f172 29 (by decide)) 41
                try have u172_15 : σ172 29 43 = σ167 29 43 := by first | exact o172 43 (by decide) | exact congrFun (f172 29 (by decide)) 43
                refine pe_aload_n d_M_go_175 rfl ?_
                refine pe_iconst d_M_go_176 ?_
                refine pe_putzT f_M_260 g_11_38 d_M_go_177 rfl rfl (by first | exact Or.inl rfl | exact Or.inr rfl | omega) 38 rfl hB (fun σ177 hB e177 o177 f177 => ?_)
                try have u177_0 : σ177 29 1 = σ172 29 1 := by first | exact o177 1 (by decide) | exact congrFun (f177 29 (by decide)) 1
                try have u177_1 : σ177 29 2 = σ172 29 2 := by first | exact o177 2 (by decide) | exact congrFun (f177 29 (by decide)) 2
                try have u177_2 : σ177 29 3 = σ172 29 3 := by first | exact o177 3 (by decide) | exact congrFun (f177 29 (by decide)) 3
                try have u177_3 : σ177 29 7 = σ172 29 7 := by first | exact o177 7 (by decide) | exact congrFun (f177 29 (by decide)) 7
                try have u177_4 : σ177 29 21 = σ172 29 21 := by first | exact o177 21 (by decide) | exact congrFun (f177 29 (by decide)) 21
                try have u177_5 : σ177 29 22 = σ172 29 22 := by first | exact o177 22 (by decide) | exact congrFun (f177 29 (by decide)) 22
                try have u177_6 : σ177 29 27 = σ172 29 27 := by first | exact o177 27 (by decide) | exact congrFun (f177 29 (by decide)) 27
                try have u177_7 : σ177 29 30 = σ172 29 30 := by first | exact o177 30 (by decide) | exact congrFun (f177 29 (by decide)) 30
                try have u177_8 : σ177 29 31 = σ172 29 31 := by first | exact o177 31 (by decide) | exact congrFun (f177 29 (by decide)) 31
                try have u177_9 : σ177 29 36 = σ172 29 36 := by first | exact o177 36 (by decide) | exact congrFun (f177 29 (by decide)) 36
                try have u177_10 : σ177 29 37 = σ172 29 37 := by first | exact o177 37 (by decide) | exact congrFun (f177 29 (by decide)) 37
                try have u177_11 : σ177 29 38 = σ172 29 38 := by first | exact o177 38 (by decide) | exact congrFun (f177 29 (by decide)) 38
                try have u177_12 : σ177 29 39 = σ172 29 39 := by first | exact o177 39 (by decide) | exact congrFun (f177 29 (by decide)) 39
                try have u177_13 : σ177 29 40 = σ172 29 40 := by first | exact o177 40 (by decide) | exact congrFun (f177 29 (by decide)) 40
                try have u177_14 : σ177 29 41 = σ172 29 41 := by first | exact o177 41 (by decide) | exact congrFun (f177 29 (by decide)) 41
                try have u177_15 : σ177 29 43 = σ172 29 43 := by first | exact o177 43 (by decide) | exact congrFun (f177 29 (by decide)) 43
                refine pe_aload_n d_M_go_180 rfl ?_
                refine pe_iconst d_M_go_181 ?_
                refine pe_putiT f_M_68 g_11_40 d_M_go_182 rfl rfl 40 rfl hB (by first | exact hB _ _ | exact hB0 _ _ | exact hBt _ _ | exact ⟨by omega, by omega⟩) (fun σ182 hB e182 o182 f182 => ?_)
                try have u182_0 : σ182 29 1 = σ177 29 1 := by first | exact o182 1 (by decide) | exact congrFun (f182 29 (by decide)) 1
                try have u182_1 : σ182 29 2 = σ177 29 2 := by first | exact o182 2 (by decide) | exact congrFun (f182 29 (by decide)) 2
                try have u182_2 : σ182 29 3 = σ177 29 3 := by first | exact o182 3 (by decide) | exact congrFun (f182 29 (by decide)) 3
                try have u182_3 : σ182 29 7 = σ177 29 7 := by first | exact o182 7 (by decide) | exact congrFun (f182 29 (by decide)) 7
                try have u182_4 : σ182 29 21 = σ177 29 21 := by first | exact o182 21 (by decide) | exact congrFun (f182 29 (by decide)) 21
                try have u182_5 : σ182 29 22 = σ177 29 22 := by first | exact o182 22 (by decide) | exact congrFun (f182 29 (by decide)) 22
                try have u182_6 : σ182 29 27 = σ177 29 27 := by first | exact o182 27 (by decide) | exact congrFun (f182 29 (by decide)) 27
                try have u182_7 : σ182 29 30 = σ177 29 30 := by first | exact o182 30 (by decide) | exact congrFun (f182 29 (by decide)) 30
                try have u182_8 : σ182 29 31 = σ177 29 31 := by first | exact o182 31 (by decide) | exact congrFun (f182 29 (by decide)) 31
                try have u182_9 : σ182 29 36 = σ177 29 36 := by first | exact o182 36 (by decide) | exact congrFun (f182 29 (by decide)) 36
                try have u182_10 : σ182 29 37 = σ177 29 37 := by first | exact o182 37 (by decide) | exact congrFun (f182 29 (by decide)) 37
                try have u182_11 : σ182 29 38 = σ177 29 38 := by first | exact o182 38 (by decide) | exact congrFun (f182 29 (by decide)) 38
                try have u182_12 : σ182 29 39 = σ177 29 39 := by first | exact o182 39 (by decide) | exact congrFun (f182 29 (by decide)) 39
                try have u182_13 : σ182 29 40 = σ177 29 40 := by first | exact o182 40 (by decide) | exact congrFun (f182 29 (by decide)) 40
                try have u182_14 : σ182 29 41 = σ177 29 41 := by first | exact o182 41 (by decide) | exact congrFun (f182 29 (by decide)) 41
                try have u182_15 : σ182 29 43 = σ177 29 43 := by first | exact o182 43 (by decide) | exact congrFun (f182 29 (by decide)) 43
                refine pe_rv d_M_go_185 ?_
                first | (exfalso; omega) | exact ⟨hB, (fun b hb => (f182 b (by simp at hb ⊢; try omega)).trans ((f177 b (by simp at hb ⊢; try omega)).trans ((f172 b (by simp at hb ⊢; try omega)).trans ((f167 b (by simp at hb ⊢; try omega)).trans ((f162 b (by simp at hb ⊢; try omega)).trans (rfl)))))), (fun j hj => (o182 j (by simp at hj ⊢; try omega)).trans ((o177 j (by simp at hj ⊢; try omega)).trans ((o172 j (by simp at hj ⊢; try omega)).trans ((o167 j (by simp at hj ⊢; try omega)).trans ((o162 j (by simp at hj ⊢; try omega)).trans (rfl)))))), by omega, 2, by omega, by omega⟩ | exact ⟨hB, (fun b hb => (f182 b (by simp at hb ⊢; try omega)).trans ((f177 b (by simp at hb ⊢; try omega)).trans ((f172 b (by simp at hb ⊢; try omega)).trans ((f167 b (by simp at hb ⊢; try omega)).trans ((f162 b (by simp at hb ⊢; try omega)).trans (rfl)))))), (fun j hj => (o182 j (by simp at hj ⊢; try omega)).trans ((o177 j (by simp at hj ⊢; try omega)).trans ((o172 j (by simp at hj ⊢; try omega)).trans ((o167 j (by simp at hj ⊢; try omega)).trans ((o162 j (by simp at hj ⊢; try omega)).trans (rfl)))))), by omega, 6, by omega, by omega⟩
              · skip
                refine pe_aload_n d_M_go_144 rfl ?_
                refine pe_bipush d_M_go_145 ?_
                refine pe_any (fun v147 hv147 => ?_)
                refine pe_v1v d_M_go_147 c_M_253 i_M_put s_M_put rfl rfl (y_M_put hB (by omega) (by first | exact hB _ _ | exact hB0 _ _ | exact hBt _ _ | exact ⟨by omega, by omega⟩)) (fun σ147 hz147 => ?_)
                obtain ⟨hB, f147, o147, x147⟩ := hz147
                try have u147_0 : σ147 29 1 = σ 29 1 := by first | exact o147 1 (by decide) | exact congrFun (f147 29 (by decide)) 1
                try have u147_1 : σ147 29 2 = σ 29 2 := by first | exact o147 2 (by decide) | exact congrFun (f147 29 (by decide)) 2
                try have u147_2 : σ147 29 3 = σ 29 3 := by first | exact o147 3 (by decide) | exact congrFun (f147 29 (by decide)) 3
                try have u147_3 : σ147 29 7 = σ 29 7 := by first | exact o147 7 (by decide) | exact congrFun (f147 29 (by decide)) 7
                try have u147_4 : σ147 29 21 = σ 29 21 := by first | exact o147 21 (by decide) | exact congrFun (f147 29 (by decide)) 21
                try have u147_5 : σ147 29 22 = σ 29 22 := by first | exact o147 22 (by decide) | exact congrFun (f147 29 (by decide)) 22
                try have u147_6 : σ147 29 27 = σ 29 27 := by first | exact o147 27 (by decide) | exact congrFun (f147 29 (by decide)) 27
                try have u147_7 : σ147 29 30 = σ 29 30 := by first | exact o147 30 (by decide) | exact congrFun (f147 29 (by decide)) 30
                try have u147_8 : σ147 29 31 = σ 29 31 := by first | exact o147 31 (by decide) | exact congrFun (f147 29 (by decide)) 31
                try have u147_9 : σ147 29 36 = σ 29 36 := by first | exact o147 36 (by decide) | exact congrFun (f147 29 (by decide)) 36
                try have u147_10 : σ147 29 37 = σ 29 37 := by first | exact o147 37 (by decide) | exact congrFun (f147 29 (by decide)) 37
                try have u147_11 : σ147 29 38 = σ 29 38 := by first | exact o147 38 (by decide) | exact congrFun (f147 29 (by decide)) 38
                try have u147_12 : σ147 29 39 = σ 29 39 := by first | exact o147 39 (by decide) | exact congrFun (f147 29 (by decide)) 39
                try have u147_13 : σ147 29 40 = σ 29 40 := by first | exact o147 40 (by decide) | exact congrFun (f147 29 (by decide)) 40
                try have u147_14 : σ147 29 41 = σ 29 41 := by first | exact o147 41 (by decide) | exact congrFun (f147 29 (by decide)) 41
                try have u147_15 : σ147 29 43 = σ 29 43 := by first | exact o147 43 (by decide) | exact congrFun (f147 29 (by decide)) 43
                refine pe_aload_n d_M_go_150 rfl ?_
                refine pe_bipush d_M_go_151 ?_
                refine pe_any (fun v153 hv153 => ?_)
                refine pe_v1v d_M_go_153 c_M_253 i_M_put s_M_put rfl rfl (y_M_put hB (by omega) (by first | exact hB _ _ | exact hB0 _ _ | exact hBt _ _ | exact ⟨by omega, by omega⟩)) (fun σ153 hz153 => ?_)
                obtain ⟨hB, f153, o153, x153⟩ := hz153
                try have u153_0 : σ153 29 1 = σ147 29 1 := by first | exact o153 1 (by decide) | exact congrFun (f153 29 (by decide)) 1
                try have u153_1 : σ153 29 2 = σ147 29 2 := by first | exact o153 2 (by decide) | exact congrFun (f153 29 (by decide)) 2
                try have u153_2 : σ153 29 3 = σ147 29 3 := by first | exact o153 3 (by decide) | exact congrFun (f153 29 (by decide)) 3
                try have u153_3 : σ153 29 7 = σ147 29 7 := by first | exact o153 7 (by decide) | exact congrFun (f153 29 (by decide)) 7
                try have u153_4 : σ153 29 21 = σ147 29 21 := by first | exact o153 21 (by decide) | exact congrFun (f153 29 (by decide)) 21
                try have u153_5 : σ153 29 22 = σ147 29 22 := by first | exact o153 22 (by decide) | exact congrFun (f153 29 (by decide)) 22
                try have u153_6 : σ153 29 27 = σ147 29 27 := by first | exact o153 27 (by decide) | exact congrFun (f153 29 (by decide)) 27
                try have u153_7 : σ153 29 30 = σ147 29 30 := by first | exact o153 30 (by decide) | exact congrFun (f153 29 (by decide)) 30
                try have u153_8 : σ153 29 31 = σ147 29 31 := by first | exact o153 31 (by decide) | exact congrFun (f153 29 (by decide)) 31
                try have u153_9 : σ153 29 36 = σ147 29 36 := by first | exact o153 36 (by decide) | exact congrFun (f153 29 (by decide)) 36
                try have u153_10 : σ153 29 37 = σ147 29 37 := by first | exact o153 37 (by decide) | exact congrFun (f153 29 (by decide)) 37
                try have u153_11 : σ153 29 38 = σ147 29 38 := by first | exact o153 38 (by decide) | exact congrFun (f153 29 (by decide)) 38
                try have u153_12 : σ153 29 39 = σ147 29 39 := by first | exact o153 39 (by decide) | exact congrFun (f153 29 (by decide)) 39
                try have u153_13 : σ153 29 40 = σ147 29 40 := by first | exact o153 40 (by decide) | exact congrFun (f153 29 (by decide)) 40
                try have u153_14 : σ153 29 41 = σ147 29 41 := by first | exact o153 41 (by decide) | exact congrFun (f153 29 (by decide)) 41
                try have u153_15 : σ153 29 43 = σ147 29 43 := by first | exact o153 43 (by decide) | exact congrFun (f153 29 (by decide)) 43
                refine pe_goto (t := 165) d_M_go_156 ?_
                refine pe_aload_n d_M_go_165 rfl ?_
                refine pe_iload_n d_M_go_166 rfl ?_
                refine pe_putiT f_M_263 g_11_36 d_M_go_167 rfl rfl 36 rfl hB (by first | exact hB _ _ | exact hB0 _ _ | exact hBt _ _ | exact ⟨by omega, by omega⟩) (fun σ167 hB e167 o167 f167 => ?_)
                try have u167_0 : σ167 29 1 = σ153 29 1 := by first | exact o167 1 (by decide) | exact congrFun (f167 29 (by decide)) 1
                try have u167_1 : σ167 29 2 = σ153 29 2 := by first | exact o167 2 (by decide) | exact congrFun (f167 29 (by decide)) 2
                try have u167_2 : σ167 29 3 = σ153 29 3 := by first | exact o167 3 (by decide) | exact congrFun (f167 29 (by decide)) 3
                try have u167_3 : σ167 29 7 = σ153 29 7 := by first | exact o167 7 (by decide) | exact congrFun (f167 29 (by decide)) 7
                try have u167_4 : σ167 29 21 = σ153 29 21 := by first | exact o167 21 (by decide) | exact congrFun (f167 29 (by decide)) 21
                try have u167_5 : σ167 29 22 = σ153 29 22 := by first | exact o167 22 (by decide) | exact congrFun (f167 29 (by decide)) 22
                try have u167_6 : σ167 29 27 = σ153 29 27 := by first | exact o167 27 (by decide) | exact congrFun (f167 29 (by decide)) 27
                try have u167_7 : σ167 29 30 = σ153 29 30 := by first | exact o167 30 (by decide) | exact congrFun (f167 29 (by decide)) 30
                try have u167_8 : σ167 29 31 = σ153 29 31 := by first | exact o167 31 (by decide) | exact congrFun (f167 29 (by decide)) 31
                try have u167_9 : σ167 29 36 = σ153 29 36 := by first | exact o167 36 (by decide) | exact congrFun (f167 29 (by decide)) 36
                try have u167_10 : σ167 29 37 = σ153 29 37 := by first | exact o167 37 (by decide) | exact congrFun (f167 29 (by decide)) 37
                try have u167_11 : σ167 29 38 = σ153 29 38 := by first | exact o167 38 (by decide) | exact congrFun (f167 29 (by decide)) 38
                try have u167_12 : σ167 29 39 = σ153 29 39 := by first | exact o167 39 (by decide) | exact congrFun (f167 29 (by decide)) 39
                try have u167_13 : σ167 29 40 = σ153 29 40 := by first | exact o167 40 (by decide) | exact congrFun (f167 29 (by decide)) 40
                try have u167_14 : σ167 29 41 = σ153 29 41 := by first | exact o167 41 (by decide) | exact congrFun (f167 29 (by decide)) 41
                try have u167_15 : σ167 29 43 = σ153 29 43 := by first | exact o167 43 (by decide) | exact congrFun (f167 29 (by decide)) 43
                refine pe_aload_n d_M_go_170 rfl ?_
                refine pe_iload_n d_M_go_171 rfl ?_
                refine pe_putiT f_M_266 g_11_37 d_M_go_172 rfl rfl 37 rfl hB (by first | exact hB _ _ | exact hB0 _ _ | exact hBt _ _ | exact ⟨by omega, by omega⟩) (fun σ172 hB e172 o172 f172 => ?_)
                try have u172_0 : σ172 29 1 = σ167 29 1 := by first | exact o172 1 (by decide) | exact congrFun (f172 29 (by decide)) 1
                try have u172_1 : σ172 29 2 = σ167 29 2 := by first | exact o172 2 (by decide) | exact congrFun (f172 29 (by decide)) 2
                try have u172_2 : σ172 29 3 = σ167 29 3 := by first | exact o172 3 (by decide) | exact congrFun (f172 29 (by decide)) 3
                try have u172_3 : σ172 29 7 = σ167 29 7 := by first | exact o172 7 (by decide) | exact congrFun (f172 29 (by decide)) 7
                try have u172_4 : σ172 29 21 = σ167 29 21 := by first | exact o172 21 (by decide) | exact congrFun (f172 29 (by decide)) 21
                try have u172_5 : σ172 29 22 = σ167 29 22 := by first | exact o172 22 (by decide) | exact congrFun (f172 29 (by decide)) 22
                try have u172_6 : σ172 29 27 = σ167 29 27 := by first | exact o172 27 (by decide) | exact congrFun (f172 29 (by decide)) 27
                try have u172_7 : σ172 29 30 = σ167 29 30 := by first | exact o172 30 (by decide) | exact congrFun (f172 29 (by decide)) 30
                try have u172_8 : σ172 29 31 = σ167 29 31 := by first | exact o172 31 (by decide) | exact congrFun (f172 29 (by decide)) 31
                try have u172_9 : σ172 29 36 = σ167 29 36 := by first | exact o172 36 (by decide) | exact congrFun (f172 29 (by decide)) 36
                try have u172_10 : σ172 29 37 = σ167 29 37 := by first | exact o172 37 (by decide) | exact congrFun (f172 29 (by decide)) 37
                try have u172_11 : σ172 29 38 = σ167 29 38 := by first | exact o172 38 (by decide) | exact congrFun (f172 29 (by decide)) 38
                try have u172_12 : σ172 29 39 = σ167 29 39 := by first | exact o172 39 (by decide) | exact congrFun (f172 29 (by decide)) 39
                try have u172_13 : σ172 29 40 = σ167 29 40 := by first | exact o172 40 (by decide) | exact congrFun (f172 29 (by decide)) 40
                try have u172_14 : σ172 29 41 = σ167 29 41 := by first | exact o172 41 (by decide) | exact congrFun (f172 29 (by decide)) 41
                try have u172_15 : σ172 29 43 = σ167 29 43 := by first | exact o172 43 (by decide) | exact congrFun (f172 29 (by decide)) 43
                refine pe_aload_n d_M_go_175 rfl ?_
                refine pe_iconst d_M_go_176 ?_
                refine pe_putzT f_M_260 g_11_38 d_M_go_177 rfl rfl (by first | exact Or.inl rfl | exact Or.inr rfl | omega) 38 rfl hB (fun σ177 hB e177 o177 f177 => ?_)
                try have u177_0 : σ177 29 1 = σ172 29 1 := by first | exact o177 1 (by decide) | exact congrFun (f177 29 (by decide)) 1
                try have u177_1 : σ177 29 2 = σ172 29 2 := by first | exact o177 2 (by decide) | exact congrFun (f177 29 (by decide)) 2
                try have u177_2 : σ177 29 3 = σ172 29 3 := by first | exact o177 3 (by decide) | exact congrFun (f177 29 (by decide)) 3
                try have u177_3 : σ177 29 7 = σ172 29 7 := by first | exact o177 7 (by decide) | exact congrFun (f177 29 (by decide)) 7
                try have u177_4 : σ177 29 21 = σ172 29 21 := by first | exact o177 21 (by decide) | exact congrFun (f177 29 (by decide)) 21
                try have u177_5 : σ177 29 22 = σ172 29 22 := by first | exact o177 22 (by decide) | exact congrFun (f177 29 (by decide)) 22
                try have u177_6 : σ177 29 27 = σ172 29 27 := by first | exact o177 27 (by decide) | exact congrFun (f177 29 (by decide)) 27
                try have u177_7 : σ177 29 30 = σ172 29 30 := by first | exact o177 30 (by decide) | exact congrFun (f177 29 (by decide)) 30
                try have u177_8 : σ177 29 31 = σ172 29 31 := by first | exact o177 31 (by decide) | exact congrFun (f177 29 (by decide)) 31
                try have u177_9 : σ177 29 36 = σ172 29 36 := by first | exact o177 36 (by decide) | exact congrFun (f177 29 (by decide)) 36
                try have u177_10 : σ177 29 37 = σ172 29 37 := by first | exact o177 37 (by decide) | exact congrFun (f177 29 (by decide)) 37
                try have u177_11 : σ177 29 38 = σ172 29 38 := by first | exact o177 38 (by decide) | exact congrFun (f177 29 (by decide)) 38
                try have u177_12 : σ177 29 39 = σ172 29 39 := by first | exact o177 39 (by decide) | exact congrFun (f177 29 (by decide)) 39
                try have u177_13 : σ177 29 40 = σ172 29 40 := by first | exact o177 40 (by decide) | exact congrFun (f177 29 (by decide)) 40
                try have u177_14 : σ177 29 41 = σ172 29 41 := by first | exact o177 41 (by decide) | exact congrFun (f177 29 (by decide)) 41
                try have u177_15 : σ177 29 43 = σ172 29 43 := by first | exact o177 43 (by decide) | exact congrFun (f177 29 (by decide)) 43
                refine pe_aload_n d_M_go_180 rfl ?_
                refine pe_iconst d_M_go_181 ?_
                refine pe_putiT f_M_68 g_11_40 d_M_go_182 rfl rfl 40 rfl hB (by first | exact hB _ _ | exact hB0 _ _ | exact hBt _ _ | exact ⟨by omega, by omega⟩) (fun σ182 hB e182 o182 f182 => ?_)
                try have u182_0 : σ182 29 1 = σ177 29 1 := by first | exact o182 1 (by decide) | exact congrFun (f182 29 (by decide)) 1
                try have u182_1 : σ182 29 2 = σ177 29 2 := by first | exact o182 2 (by decide) | exact congrFun (f182 29 (by decide)) 2
                try have u182_2 : σ182 29 3 = σ177 29 3 := by first | exact o182 3 (by decide) | exact congrFun (f182 29 (by decide)) 3
                try have u182_3 : σ182 29 7 = σ177 29 7 := by first | exact o182 7 (by decide) | exact congrFun (f182 29 (by decide)) 7
                try have u182_4 : σ182 29 21 = σ177 29 21 := by first | exact o182 21 (by decide) | exact congrFun (f182 29 (by decide)) 21
                try have u182_5 : σ182 29 22 = σ177 29 22 := by first | exact o182 22 (by decide) | exact congrFun (f182 29 (by decide)) 22
                try have u182_6 : σ182 29 27 = σ177 29 27 := by first | exact o182 27 (by decide) | exact congrFun (f182 29 (by decide)) 27
                try have u182_7 : σ182 29 30 = σ177 29 30 := by first | exact o182 30 (by decide) | exact congrFun (f182 29 (by decide)) 30
                try have u182_8 : σ182 29 31 = σ177 29 31 := by first | exact o182 31 (by decide) | exact congrFun (f182 29 (by decide)) 31
                try have u182_9 : σ182 29 36 = σ177 29 36 := by first | exact o182 36 (by decide) | exact congrFun (f182 29 (by decide)) 36
                try have u182_10 : σ182 29 37 = σ177 29 37 := by first | exact o182 37 (by decide) | exact congrFun (f182 29 (by decide)) 37
                try have u182_11 : σ182 29 38 = σ177 29 38 := by first | exact o182 38 (by decide) | exact congrFun (f182 29 (by decide)) 38
                try have u182_12 : σ182 29 39 = σ177 29 39 := by first | exact o182 39 (by decide) | exact congrFun (f182 29 (by decide)) 39
                try have u182_13 : σ182 29 40 = σ177 29 40 := by first | exact o182 40 (by decide) | exact congrFun (f182 29 (by decide)) 40
                try have u182_14 : σ182 29 41 = σ177 29 41 := by first | exact o182 41 (by decide) | exact congrFun (f182 29 (by decide)) 41
                try have u182_15 : σ182 29 43 = σ177 29 43 := by first | exact o182 43 (by decide) | exact congrFun (f182 29 (by decide)) 43
                refine pe_rv d_M_go_185 ?_
                first | (exfalso; omega) | exact ⟨hB, (fun b hb => (f182 b (by simp at hb ⊢; try omega)).trans ((f177 b (by simp at hb ⊢; try omega)).trans ((f172 b (by simp at hb ⊢; try omega)).trans ((f167 b (by simp at hb ⊢; try omega)).trans ((f153 b (by simp at hb ⊢; try omega)).trans ((f147 b (by simp at hb ⊢; try omega)).trans (rfl))))))), (fun j hj => (o182 j (by simp at hj ⊢; try omega)).trans ((o177 j (by simp at hj ⊢; try omega)).trans ((o172 j (by simp at hj ⊢; try omega)).trans ((o167 j (by simp at hj ⊢; try omega)).trans ((o153 j (by simp at hj ⊢; try omega)).trans ((o147 j (by simp at hj ⊢; try omega)).trans (rfl))))))), by omega, 2, by omega, by omega⟩ | exact ⟨hB, (fun b hb => (f182 b (by simp at hb ⊢; try omega)).trans ((f177 b (by simp at hb ⊢; try omega)).trans ((f172 b (by simp at hb ⊢; try omega)).trans ((f167 b (by simp at hb ⊢; try omega)).trans ((f153 b (by simp at hb ⊢; try omega)).trans ((f147 b (by simp at hb ⊢; try omega)).trans (rfl))))))), (fun j hj => (o182 j (by simp at hj ⊢; try omega)).trans ((o177 j (by simp at hj ⊢; try omega)).trans ((o172 j (by simp at hj ⊢; try omega)).trans ((o167 j (by simp at hj ⊢; try omega)).trans ((o153 j (by simp at hj ⊢; try omega)).trans ((o147 j (by simp at hj ⊢; try omega)).trans (rfl))))))), by omega, 6, by omega, by omega⟩
          · skip
            exfalso; omega
        · skip
          exfalso; omega
      · skip
        exfalso; omega
    · skip
      refine pe_iload_n d_M_go_35 rfl ?_
      refine pe_if_ne (t := 40) d_M_go_36 (by first | exact hB _ _ | exact hB0 _ _ | exact hBt _ _ | exact ⟨by omega, by omega⟩) (fun h36 => ?_) (fun h36 => ?_)
      · skip
        refine pe_iload_n d_M_go_40 rfl ?_
        refine pe_if_eq (t := 53) d_M_go_41 (by first | exact hB _ _ | exact hB0 _ _ | exact hBt _ _ | exact ⟨by omega, by omega⟩) (fun h41 => ?_) (fun h41 => ?_)
        · skip
          refine pe_iload_n d_M_go_53 rfl ?_
          refine pe_aload_n d_M_go_54 rfl ?_
          refine pe_geti f_M_263 d_M_go_55 rfl rfl 36 rfl ?_
          refine pe_icmp_ne (t := 109) d_M_go_58 (by first | exact hB _ _ | exact hB0 _ _ | exact hBt _ _ | exact ⟨by omega, by omega⟩) (by first | exact hB _ _ | exact hB0 _ _ | exact hBt _ _ | exact ⟨by omega, by omega⟩) (fun h58 => ?_) (fun h58 => ?_)
          · skip
            refine pe_iload_n d_M_go_109 rfl ?_
            refine pe_aload_n d_M_go_110 rfl ?_
            refine pe_geti f_M_263 d_M_go_111 rfl rfl 36 rfl ?_
            refine pe_icmp_ne (t := 130) d_M_go_114 (by first | exact hB _ _ | exact hB0 _ _ | exact hBt _ _ | exact ⟨by omega, by omega⟩) (by first | exact hB _ _ | exact hB0 _ _ | exact hBt _ _ | exact ⟨by omega, by omega⟩) (fun h114 => ?_) (fun h114 => ?_)
            · skip
              refine pe_iload_n d_M_go_130 rfl ?_
              refine pe_aload_n d_M_go_131 rfl ?_
              refine pe_geti f_M_263 d_M_go_132 rfl rfl 36 rfl ?_
              refine pe_iconst d_M_go_135 ?_
              refine pe_iadd d_M_go_136 ?_
              refine pe_icmp_ne (t := 159) d_M_go_137 (by first | exact hB _ _ | exact hB0 _ _ | exact hBt _ _ | exact ⟨by omega, by omega⟩) (by first | exact hB _ _ | exact hB0 _ _ | exact hBt _ _ | exact ⟨by omega, by omega⟩) (fun h137 => ?_) (fun h137 => ?_)
              · skip
                refine pe_aload_n d_M_go_159 rfl ?_
                refine pe_iload_n d_M_go_160 rfl ?_
                refine pe_iload_n d_M_go_161 rfl ?_
                refine pe_v2v d_M_go_162 c_M_281 i_M_sendPlace s_M_sendPlace rfl rfl (y_M_sendPlace hB (by omega) (by omega) (by omega)) (fun σ162 hz162 => ?_)
                obtain ⟨hB, f162, o162, x162⟩ := hz162
                try have u162_0 : σ162 29 1 = σ 29 1 := by first | exact o162 1 (by decide) | exact congrFun (f162 29 (by decide)) 1
                try have u162_1 : σ162 29 2 = σ 29 2 := by first | exact o162 2 (by decide) | exact congrFun (f162 29 (by decide)) 2
                try have u162_2 : σ162 29 3 = σ 29 3 := by first | exact o162 3 (by decide) | exact congrFun (f162 29 (by decide)) 3
                try have u162_3 : σ162 29 7 = σ 29 7 := by first | exact o162 7 (by decide) | exact congrFun (f162 29 (by decide)) 7
                try have u162_4 : σ162 29 21 = σ 29 21 := by first | exact o162 21 (by decide) | exact congrFun (f162 29 (by decide)) 21
                try have u162_5 : σ162 29 22 = σ 29 22 := by first | exact o162 22 (by decide) | exact congrFun (f162 29 (by decide)) 22
                try have u162_6 : σ162 29 27 = σ 29 27 := by first | exact o162 27 (by decide) | exact congrFun (f162 29 (by decide)) 27
                try have u162_7 : σ162 29 30 = σ 29 30 := by first | exact o162 30 (by decide) | exact congrFun (f162 29 (by decide)) 30
                try have u162_8 : σ162 29 31 = σ 29 31 := by first | exact o162 31 (by decide) | exact congrFun (f162 29 (by decide)) 31
                try have u162_9 : σ162 29 36 = σ 29 36 := by first | exact o162 36 (by decide) | exact congrFun (f162 29 (by decide)) 36
                try have u162_10 : σ162 29 37 = σ 29 37 := by first | exact o162 37 (by decide) | exact congrFun (f162 29 (by decide)) 37
                try have u162_11 : σ162 29 38 = σ 29 38 := by first | exact o162 38 (by decide) | exact congrFun (f162 29 (by decide)) 38
                try have u162_12 : σ162 29 39 = σ 29 39 := by first | exact o162 39 (by decide) | exact congrFun (f162 29 (by decide)) 39
                try have u162_13 : σ162 29 40 = σ 29 40 := by first | exact o162 40 (by decide) | exact congrFun (f162 29 (by decide)) 40
                try have u162_14 : σ162 29 41 = σ 29 41 := by first | exact o162 41 (by decide) | exact congrFun (f162 29 (by decide)) 41
                try have u162_15 : σ162 29 43 = σ 29 43 := by first | exact o162 43 (by decide) | exact congrFun (f162 29 (by decide)) 43
                refine pe_aload_n d_M_go_165 rfl ?_
                refine pe_iload_n d_M_go_166 rfl ?_
                refine pe_putiT f_M_263 g_11_36 d_M_go_167 rfl rfl 36 rfl hB (by first | exact hB _ _ | exact hB0 _ _ | exact hBt _ _ | exact ⟨by omega, by omega⟩) (fun σ167 hB e167 o167 f167 => ?_)
                try have u167_0 : σ167 29 1 = σ162 29 1 := by first | exact o167 1 (by decide) | exact congrFun (f167 29 (by decide)) 1
                try have u167_1 : σ167 29 2 = σ162 29 2 := by first | exact o167 2 (by decide) | exact congrFun (f167 29 (by decide)) 2
                try have u167_2 : σ167 29 3 = σ162 29 3 := by first | exact o167 3 (by decide) | exact congrFun (f167 29 (by decide)) 3
                try have u167_3 : σ167 29 7 = σ162 29 7 := by first | exact o167 7 (by decide) | exact congrFun (f167 29 (by decide)) 7
                try have u167_4 : σ167 29 21 = σ162 29 21 := by first | exact o167 21 (by decide) | exact congrFun (f167 29 (by decide)) 21
                try have u167_5 : σ167 29 22 = σ162 29 22 := by first | exact o167 22 (by decide) | exact congrFun (f167 29 (by decide)) 22
                try have u167_6 : σ167 29 27 = σ162 29 27 := by first | exact o167 27 (by decide) | exact congrFun (f167 29 (by decide)) 27
                try have u167_7 : σ167 29 30 = σ162 29 30 := by first | exact o167 30 (by decide) | exact congrFun (f167 29 (by decide)) 30
                try have u167_8 : σ167 29 31 = σ162 29 31 := by first | exact o167 31 (by decide) | exact congrFun (f167 29 (by decide)) 31
                try have u167_9 : σ167 29 36 = σ162 29 36 := by first | exact o167 36 (by decide) | exact congrFun (f167 29 (by decide)) 36
                try have u167_10 : σ167 29 37 = σ162 29 37 := by first | exact o167 37 (by decide) | exact congrFun (f167 29 (by decide)) 37
                try have u167_11 : σ167 29 38 = σ162 29 38 := by first | exact o167 38 (by decide) | exact congrFun (f167 29 (by decide)) 38
                try have u167_12 : σ167 29 39 = σ162 29 39 := by first | exact o167 39 (by decide) | exact congrFun (f167 29 (by decide)) 39
                try have u167_13 : σ167 29 40 = σ162 29 40 := by first | exact o167 40 (by decide) | exact congrFun (f167 29 (by decide)) 40
                try have u167_14 : σ167 29 41 = σ162 29 41 := by first | exact o167 41 (by decide) | exact congrFun (f167 29 (by decide)) 41
                try have u167_15 : σ167 29 43 = σ162 29 43 := by first | exact o167 43 (by decide) | exact congrFun (f167 29 (by decide)) 43
                refine pe_aload_n d_M_go_170 rfl ?_
                refine pe_iload_n d_M_go_171 rfl ?_
                refine pe_putiT f_M_266 g_11_37 d_M_go_172 rfl rfl 37 rfl hB (by first | exact hB _ _ | exact hB0 _ _ | exact hBt _ _ | exact ⟨by omega, by omega⟩) (fun σ172 hB e172 o172 f172 => ?_)
                try have u172_0 : σ172 29 1 = σ167 29 1 := by first | exact o172 1 (by decide) | exact congrFun (f172 29 (by decide)) 1
                try have u172_1 : σ172 29 2 = σ167 29 2 := by first | exact o172 2 (by decide) | exact congrFun (f172 29 (by decide)) 2
                try have u172_2 : σ172 29 3 = σ167 29 3 := by first | exact o172 3 (by decide) | exact congrFun (f172 29 (by decide)) 3
                try have u172_3 : σ172 29 7 = σ167 29 7 := by first | exact o172 7 (by decide) | exact congrFun (f172 29 (by decide)) 7
                try have u172_4 : σ172 29 21 = σ167 29 21 := by first | exact o172 21 (by decide) | exact congrFun (f172 29 (by decide)) 21
                try have u172_5 : σ172 29 22 = σ167 29 22 := by first | exact o172 22 (by decide) | exact congrFun (f172 29 (by decide)) 22
                try have u172_6 : σ172 29 27 = σ167 29 27 := by first | exact o172 27 (by decide) | exact congrFun (f172 29 (by decide)) 27
                try have u172_7 : σ172 29 30 = σ167 29 30 := by first | exact o172 30 (by decide) | exact congrFun (f172 29 (by decide)) 30
                try have u172_8 : σ172 29 31 = σ167 29 31 := by first | exact o172 31 (by decide) | exact congrFun (f172 29 (by decide)) 31
                try have u172_9 : σ172 29 36 = σ167 29 36 := by first | exact o172 36 (by decide) | exact congrFun (f172 29 (by decide)) 36
                try have u172_10 : σ172 29 37 = σ167 29 37 := by first | exact o172 37 (by decide) | exact congrFun (f172 29 (by decide)) 37
                try have u172_11 : σ172 29 38 = σ167 29 38 := by first | exact o172 38 (by decide) | exact congrFun (f172 29 (by decide)) 38
                try have u172_12 : σ172 29 39 = σ167 29 39 := by first | exact o172 39 (by decide) | exact congrFun (f172 29 (by decide)) 39
                try have u172_13 : σ172 29 40 = σ167 29 40 := by first | exact o172 40 (by decide) | exact congrFun (f172 29 (by decide)) 40
                try have u172_14 : σ172 29 41 = σ167 29 41 := by first | exact o172 41 (by decide) | exact congrFun (f172 29 (by decide)) 41
                try have u172_15 : σ172 29 43 = σ167 29 43 := by first | exact o172 43 (by decide) | exact congrFun (f172 29 (by decide)) 43
                refine pe_aload_n d_M_go_175 rfl ?_
                refine pe_iconst d_M_go_176 ?_
                refine pe_putzT f_M_260 g_11_38 d_M_go_177 rfl rfl (by first | exact Or.inl rfl | exact Or.inr rfl | omega) 38 rfl hB (fun σ177 hB e177 o177 f177 => ?_)
                try have u177_0 : σ177 29 1 = σ172 29 1 := by first | exact o177 1 (by decide) | exact congrFun (f177 29 (by decide)) 1
                try have u177_1 : σ177 29 2 = σ172 29 2 := by first | exact o177 2 (by decide) | exact congrFun (f177 29 (by decide)) 2
                try have u177_2 : σ177 29 3 = σ172 29 3 := by first | exact o177 3 (by decide) | exact congrFun (f177 29 (by decide)) 3
                try have u177_3 : σ177 29 7 = σ172 29 7 := by first | exact o177 7 (by decide) | exact congrFun (f177 29 (by decide)) 7
                try have u177_4 : σ177 29 21 = σ172 29 21 := by first | exact o177 21 (by decide) | exact congrFun (f177 29 (by decide)) 21
                try have u177_5 : σ177 29 22 = σ172 29 22 := by first | exact o177 22 (by decide) | exact congrFun (f177 29 (by decide)) 22
                try have u177_6 : σ177 29 27 = σ172 29 27 := by first | exact o177 27 (by decide) | exact congrFun (f177 29 (by decide)) 27
                try have u177_7 : σ177 29 30 = σ172 29 30 := by first | exact o177 30 (by decide) | exact congrFun (f177 29 (by decide)) 30
                try have u177_8 : σ177 29 31 = σ172 29 31 := by first | exact o177 31 (by decide) | exact congrFun (f177 29 (by decide)) 31
                try have u177_9 : σ177 29 36 = σ172 29 36 := by first | exact o177 36 (by decide) | exact congrFun (f177 29 (by decide)) 36
                try have u177_10 : σ177 29 37 = σ172 29 37 := by first | exact o177 37 (by decide) | exact congrFun (f177 29 (by decide)) 37
                try have u177_11 : σ177 29 38 = σ172 29 38 := by first | exact o177 38 (by decide) | exact congrFun (f177 29 (by decide)) 38
                try have u177_12 : σ177 29 39 = σ172 29 39 := by first | exact o177 39 (by decide) | exact congrFun (f177 29 (by decide)) 39
                try have u177_13 : σ177 29 40 = σ172 29 40 := by first | exact o177 40 (by decide) | exact congrFun (f177 29 (by decide)) 40
                try have u177_14 : σ177 29 41 = σ172 29 41 := by first | exact o177 41 (by decide) | exact congrFun (f177 29 (by decide)) 41
                try have u177_15 : σ177 29 43 = σ172 29 43 := by first | exact o177 43 (by decide) | exact congrFun (f177 29 (by decide)) 43
                refine pe_aload_n d_M_go_180 rfl ?_
                refine pe_iconst d_M_go_181 ?_
                refine pe_putiT f_M_68 g_11_40 d_M_go_182 rfl rfl 40 rfl hB (by first | exact hB _ _ | exact hB0 _ _ | exact hBt _ _ | exact ⟨by omega, by omega⟩) (fun σ182 hB e182 o182 f182 => ?_)
                try have u182_0 : σ182 29 1 = σ177 29 1 := by first | exact o182 1 (by decide) | exact congrFun (f182 29 (by decide)) 1
                try have u182_1 : σ182 29 2 = σ177 29 2 := by first | exact o182 2 (by decide) | exact congrFun (f182 29 (by decide)) 2
                try have u182_2 : σ182 29 3 = σ177 29 3 := by first | exact o182 3 (by decide) | exact congrFun (f182 29 (by decide)) 3
                try have u182_3 : σ182 29 7 = σ177 29 7 := by first | exact o182 7 (by decide) | exact congrFun (f182 29 (by decide)) 7
                try have u182_4 : σ182 29 21 = σ177 29 21 := by first | exact o182 21 (by decide) | exact congrFun (f182 29 (by decide)) 21
                try have u182_5 : σ182 29 22 = σ177 29 22 := by first | exact o182 22 (by decide) | exact congrFun (f182 29 (by decide)) 22
                try have u182_6 : σ182 29 27 = σ177 29 27 := by first | exact o182 27 (by decide) | exact congrFun (f182 29 (by decide)) 27
                try have u182_7 : σ182 29 30 = σ177 29 30 := by first | exact o182 30 (by decide) | exact congrFun (f182 29 (by decide)) 30
                try have u182_8 : σ182 29 31 = σ177 29 31 := by first | exact o182 31 (by decide) | exact congrFun (f182 29 (by decide)) 31
                try have u182_9 : σ182 29 36 = σ177 29 36 := by first | exact o182 36 (by decide) | exact congrFun (f182 29 (by decide)) 36
                try have u182_10 : σ182 29 37 = σ177 29 37 := by first | exact o182 37 (by decide) | exact congrFun (f182 29 (by decide)) 37
                try have u182_11 : σ182 29 38 = σ177 29 38 := by first | exact o182 38 (by decide) | exact congrFun (f182 29 (by decide)) 38
                try have u182_12 : σ182 29 39 = σ177 29 39 := by first | exact o182 39 (by decide) | exact congrFun (f182 29 (by decide)) 39
                try have u182_13 : σ182 29 40 = σ177 29 40 := by first | exact o182 40 (by decide) | exact congrFun (f182 29 (by decide)) 40
                try have u182_14 : σ182 29 41 = σ177 29 41 := by first | exact o182 41 (by decide) | exact congrFun (f182 29 (by decide)) 41
                try have u182_15 : σ182 29 43 = σ177 29 43 := by first | exact o182 43 (by decide) | exact congrFun (f182 29 (by decide)) 43
                refine pe_rv d_M_go_185 ?_
                first | (exfalso; omega) | exact ⟨hB, (fun b hb => (f182 b (by simp at hb ⊢; try omega)).trans ((f177 b (by simp at hb ⊢; try omega)).trans ((f172 b (by simp at hb ⊢; try omega)).trans ((f167 b (by simp at hb ⊢; try omega)).trans ((f162 b (by simp at hb ⊢; try omega)).trans (rfl)))))), (fun j hj => (o182 j (by simp at hj ⊢; try omega)).trans ((o177 j (by simp at hj ⊢; try omega)).trans ((o172 j (by simp at hj ⊢; try omega)).trans ((o167 j (by simp at hj ⊢; try omega)).trans ((o162 j (by simp at hj ⊢; try omega)).trans (rfl)))))), by omega, 2, by omega, by omega⟩ | exact ⟨hB, (fun b hb => (f182 b (by simp at hb ⊢; try omega)).trans ((f177 b (by simp at hb ⊢; try omega)).trans ((f172 b (by simp at hb ⊢; try omega)).trans ((f167 b (by simp at hb ⊢; try omega)).trans ((f162 b (by simp at hb ⊢; try omega)).trans (rfl)))))), (fun j hj => (o182 j (by simp at hj ⊢; try omega)).trans ((o177 j (by simp at hj ⊢; try omega)).trans ((o172 j (by simp at hj ⊢; try omega)).trans ((o167 j (by simp at hj ⊢; try omega)).trans ((o162 j (by simp at hj ⊢; try omega)).trans (rfl)))))), by omega, 6, by omega, by omega⟩
              · skip
                refine pe_iload_n d_M_go_140 rfl ?_
                refine pe_if_ne (t := 159) d_M_go_141 (by first | exact hB _ _ | exact hB0 _ _ | exact hBt _ _ | exact ⟨by omega, by omega⟩) (fun h141 => ?_) (fun h141 => ?_)
                · skip
                  refine pe_aload_n d_M_go_159 rfl ?_
                  refine pe_iload_n d_M_go_160 rfl ?_
                  refine pe_iload_n d_M_go_161 rfl ?_
                  refine pe_v2v d_M_go_162 c_M_281 i_M_sendPlace s_M_sendPlace rfl rfl (y_M_sendPlace hB (by omega) (by omega) (by omega)) (fun σ162 hz162 => ?_)
                  obtain ⟨hB, f162, o162, x162⟩ := hz162
                  try have u162_0 : σ162 29 1 = σ 29 1 := by first | exact o162 1 (by decide) | exact congrFun (f162 29 (by decide)) 1
                  try have u162_1 : σ162 29 2 = σ 29 2 := by first | exact o162 2 (by decide) | exact congrFun (f162 29 (by decide)) 2
                  try have u162_2 : σ162 29 3 = σ 29 3 := by first | exact o162 3 (by decide) | exact congrFun (f162 29 (by decide)) 3
                  try have u162_3 : σ162 29 7 = σ 29 7 := by first | exact o162 7 (by decide) | exact congrFun (f162 29 (by decide)) 7
                  try have u162_4 : σ162 29 21 = σ 29 21 := by first | exact o162 21 (by decide) | exact congrFun (f162 29 (by decide)) 21
                  try have u162_5 : σ162 29 22 = σ 29 22 := by first | exact o162 22 (by decide) | exact congrFun (f162 29 (by decide)) 22
                  try have u162_6 : σ162 29 27 = σ 29 27 := by first | exact o162 27 (by decide) | exact congrFun (f162 29 (by decide)) 27
                  try have u162_7 : σ162 29 30 = σ 29 30 := by first | exact o162 30 (by decide) | exact congrFun (f162 29 (by decide)) 30
                  try have u162_8 : σ162 29 31 = σ 29 31 := by first | exact o162 31 (by decide) | exact congrFun (f162 29 (by decide)) 31
                  try have u162_9 : σ162 29 36 = σ 29 36 := by first | exact o162 36 (by decide) | exact congrFun (f162 29 (by decide)) 36
                  try have u162_10 : σ162 29 37 = σ 29 37 := by first | exact o162 37 (by decide) | exact congrFun (f162 29 (by decide)) 37
                  try have u162_11 : σ162 29 38 = σ 29 38 := by first | exact o162 38 (by decide) | exact congrFun (f162 29 (by decide)) 38
                  try have u162_12 : σ162 29 39 = σ 29 39 := by first | exact o162 39 (by decide) | exact congrFun (f162 29 (by decide)) 39
                  try have u162_13 : σ162 29 40 = σ 29 40 := by first | exact o162 40 (by decide) | exact congrFun (f162 29 (by decide)) 40
                  try have u162_14 : σ162 29 41 = σ 29 41 := by first | exact o162 41 (by decide) | exact congrFun (f162 29 (by decide)) 41
                  try have u162_15 : σ162 29 43 = σ 29 43 := by first | exact o162 43 (by decide) | exact congrFun (f162 29 (by decide)) 43
                  refine pe_aload_n d_M_go_165 rfl ?_
                  refine pe_iload_n d_M_go_166 rfl ?_
                  refine pe_putiT f_M_263 g_11_36 d_M_go_167 rfl rfl 36 rfl hB (by first | exact hB _ _ | exact hB0 _ _ | exact hBt _ _ | exact ⟨by omega, by omega⟩) (fun σ167 hB e167 o167 f167 => ?_)
                  try have u167_0 : σ167 29 1 = σ162 29 1 := by first | exact o167 1 (by decide) | exact congrFun (f167 29 (by decide)) 1
                  try have u167_1 : σ167 29 2 = σ162 29 2 := by first | exact o167 2 (by decide) | exact congrFun (f167 29 (by decide)) 2
                  try have u167_2 : σ167 29 3 = σ162 29 3 := by first | exact o167 3 (by decide) | exact congrFun (f167 29 (by decide)) 3
                  try have u167_3 : σ167 29 7 = σ162 29 7 := by first | exact o167 7 (by decide) | exact congrFun (f167 29 (by decide)) 7
                  try have u167_4 : σ167 29 21 = σ162 29 21 := by first | exact o167 21 (by decide) | exact congrFun (f167 29 (by decide)) 21
                  try have u167_5 : σ167 29 22 = σ162 29 22 := by first | exact o167 22 (by decide) | exact congrFun (f167 29 (by decide)) 22
                  try have u167_6 : σ167 29 27 = σ162 29 27 := by first | exact o167 27 (by decide) | exact congrFun (f167 29 (by decide)) 27
                  try have u167_7 : σ167 29 30 = σ162 29 30 := by first | exact o167 30 (by decide) | exact congrFun (f167 29 (by decide)) 30
                  try have u167_8 : σ167 29 31 = σ162 29 31 := by first | exact o167 31 (by decide) | exact congrFun (f167 29 (by decide)) 31
                  try have u167_9 : σ167 29 36 = σ162 29 36 := by first | exact o167 36 (by decide) | exact congrFun (f167 29 (by decide)) 36
                  try have u167_10 : σ167 29 37 = σ162 29 37 := by first | exact o167 37 (by decide) | exact congrFun (f167 29 (by decide)) 37
                  try have u167_11 : σ167 29 38 = σ162 29 38 := by first | exact o167 38 (by decide) | exact congrFun (f167 29 (by decide)) 38
                  try have u167_12 : σ167 29 39 = σ162 29 39 := by first | exact o167 39 (by decide) | exact congrFun (f167 29 (by decide)) 39
                  try have u167_13 : σ167 29 40 = σ162 29 40 := by first | exact o167 40 (by decide) | exact congrFun (f167 29 (by decide)) 40
                  try have u167_14 : σ167 29 41 = σ162 29 41 := by first | exact o167 41 (by decide) | exact congrFun (f167 29 (by decide)) 41
                  try have u167_15 : σ167 29 43 = σ162 29 43 := by first | exact o167 43 (by decide) | exact congrFun (f167 29 (by decide)) 43
                  refine pe_aload_n d_M_go_170 rfl ?_
                  refine pe_iload_n d_M_go_171 rfl ?_
                  refine pe_putiT f_M_266 g_11_37 d_M_go_172 rfl rfl 37 rfl hB (by first | exact hB _ _ | exact hB0 _ _ | exact hBt _ _ | exact ⟨by omega, by omega⟩) (fun σ172 hB e172 o172 f172 => ?_)
                  try have u172_0 : σ172 29 1 = σ167 29 1 := by first | exact o172 1 (by decide) | exact congrFun (f172 29 (by decide)) 1
                  try have u172_1 : σ172 29 2 = σ167 29 2 := by first | exact o172 2 (by decide) | exact congrFun (f172 29 (by decide)) 2
                  try have u172_2 : σ172 29 3 = σ167 29 3 := by first | exact o172 3 (by decide) | exact congrFun (f172 29 (by decide)) 3
                  try have u172_3 : σ172 29 7 = σ167 29 7 := by first | exact o172 7 (by decide) | exact congrFun (f172 29 (by decide)) 7
                  try have u172_4 : σ172 29 21 = σ167 29 21 := by first | exact o172 21 (by decide) | exact congrFun (f172 29 (by decide)) 21
                  try have u172_5 : σ172 29 22 = σ167 29 22 := by first | exact o172 22 (by decide) | exact congrFun (f172 29 (by decide)) 22
                  try have u172_6 : σ172 29 27 = σ167 29 27 := by first | exact o172 27 (by decide) | exact congrFun (f172 29 (by decide)) 27
                  try have u172_7 : σ172 29 30 = σ167 29 30 := by first | exact o172 30 (by decide) | exact congrFun (f172 29 (by decide)) 30
                  try have u172_8 : σ172 29 31 = σ167 29 31 := by first | exact o172 31 (by decide) | exact congrFun (f172 29 (by decide)) 31
                  try have u172_9 : σ172 29 36 = σ167 29 36 := by first | exact o172 36 (by decide) | exact congrFun (f172 29 (by decide)) 36
                  try have u172_10 : σ172 29 37 = σ167 29 37 := by first | exact o172 37 (by decide) | exact congrFun (f172 29 (by decide)) 37
                  try have u172_11 : σ172 29 38 = σ167 29 38 := by first | exact o172 38 (by decide) | exact congrFun (f172 29 (by decide)) 38
                  try have u172_12 : σ172 29 39 = σ167 29 39 := by first | exact o172 39 (by decide) | exact congrFun (f172 29 (by decide)) 39
                  try have u172_13 : σ172 29 40 = σ167 29 40 := by first | exact o172 40 (by decide) | exact congrFun (f172 29 (by decide)) 40
                  try have u172_14 : σ172 29 41 = σ167 29 41 := by first | exact o172 41 (by decide) | exact congrFun (f172 29 (by decide)) 41
                  try have u172_15 : σ172 29 43 = σ167 29 43 := by first | exact o172 43 (by decide) | exact congrFun (f172 29 (by decide)) 43
                  refine pe_aload_n d_M_go_175 rfl ?_
                  refine pe_iconst d_M_go_176 ?_
                  refine pe_putzT f_M_260 g_11_38 d_M_go_177 rfl rfl (by first | exact Or.inl rfl | exact Or.inr rfl | omega) 38 rfl hB (fun σ177 hB e177 o177 f177 => ?_)
                  try have u177_0 : σ177 29 1 = σ172 29 1 := by first | exact o177 1 (by decide) | exact congrFun (f177 29 (by decide)) 1
                  try have u177_1 : σ177 29 2 = σ172 29 2 := by first | exact o177 2 (by decide) | exact congrFun (f177 29 (by decide)) 2
                  try have u177_2 : σ177 29 3 = σ172 29 3 := by first | exact o177 3 (by decide) | exact congrFun (f177 29 (by decide)) 3
                  try have u177_3 : σ177 29 7 = σ172 29 7 := by first | exact o177 7 (by decide) | exact congrFun (f177 29 (by decide)) 7
                  try have u177_4 : σ177 29 21 = σ172 29 21 := by first | exact o177 21 (by decide) | exact congrFun (f177 29 (by decide)) 21
                  try have u177_5 : σ177 29 22 = σ172 29 22 := by first | exact o177 22 (by decide) | exact congrFun (f177 29 (by decide)) 22
                  try have u177_6 : σ177 29 27 = σ172 29 27 := by first | exact o177 27 (by decide) | exact congrFun (f177 29 (by decide)) 27
                  try have u177_7 : σ177 29 30 = σ172 29 30 := by first | exact o177 30 (by decide) | exact congrFun (f177 29 (by decide)) 30
                  try have u177_8 : σ177 29 31 = σ172 29 31 := by first | exact o177 31 (by decide) | exact congrFun (f177 29 (by decide)) 31
                  try have u177_9 : σ177 29 36 = σ172 29 36 := by first | exact o177 36 (by decide) | exact congrFun (f177 29 (by decide)) 36
                  try have u177_10 : σ177 29 37 = σ172 29 37 := by first | exact o177 37 (by decide) | exact congrFun (f177 29 (by decide)) 37
                  try have u177_11 : σ177 29 38 = σ172 29 38 := by first | exact o177 38 (by decide) | exact congrFun (f177 29 (by decide)) 38
                  try have u177_12 : σ177 29 39 = σ172 29 39 := by first | exact o177 39 (by decide) | exact congrFun (f177 29 (by decide)) 39
                  try have u177_13 : σ177 29 40 = σ172 29 40 := by first | exact o177 40 (by decide) | exact congrFun (f177 29 (by decide)) 40
                  try have u177_14 : σ177 29 41 = σ172 29 41 := by first | exact o177 41 (by decide) | exact congrFun (f177 29 (by decide)) 41
                  try have u177_15 : σ177 29 43 = σ172 29 43 := by first | exact o177 43 (by decide) | exact congrFun (f177 29 (by decide)) 43
                  refine pe_aload_n d_M_go_180 rfl ?_
                  refine pe_iconst d_M_go_181 ?_
                  refine pe_putiT f_M_68 g_11_40 d_M_go_182 rfl rfl 40 rfl hB (by first | exact hB _ _ | exact hB0 _ _ | exact hBt _ _ | exact ⟨by omega, by omega⟩) (fun σ182 hB e182 o182 f182 => ?_)
                  try have u182_0 : σ182 29 1 = σ177 29 1 := by first | exact o182 1 (by decide) | exact congrFun (f182 29 (by decide)) 1
                  try have u182_1 : σ182 29 2 = σ177 29 2 := by first | exact o182 2 (by decide) | exact congrFun (f182 29 (by decide)) 2
                  try have u182_2 : σ182 29 3 = σ177 29 3 := by first | exact o182 3 (by decide) | exact congrFun (f182 29 (by decide)) 3
                  try have u182_3 : σ182 29 7 = σ177 29 7 := by first | exact o182 7 (by decide) | exact congrFun (f182 29 (by decide)) 7
                  try have u182_4 : σ182 29 21 = σ177 29 21 := by first | exact o182 21 (by decide) | exact congrFun (f182 29 (by decide)) 21
                  try have u182_5 : σ182 29 22 = σ177 29 22 := by first | exact o182 22 (by decide) | exact congrFun (f182 29 (by decide)) 22
                  try have u182_6 : σ182 29 27 = σ177 29 27 := by first | exact o182 27 (by decide) | exact congrFun (f182 29 (by decide)) 27
                  try have u182_7 : σ182 29 30 = σ177 29 30 := by first | exact o182 30 (by decide) | exact congrFun (f182 29 (by decide)) 30
                  try have u182_8 : σ182 29 31 = σ177 29 31 := by first | exact o182 31 (by decide) | exact congrFun (f182 29 (by decide)) 31
                  try have u182_9 : σ182 29 36 = σ177 29 36 := by first | exact o182 36 (by decide) | exact congrFun (f182 29 (by decide)) 36
                  try have u182_10 : σ182 29 37 = σ177 29 37 := by first | exact o182 37 (by decide) | exact congrFun (f182 29 (by decide)) 37
                  try have u182_11 : σ182 29 38 = σ177 29 38 := by first | exact o182 38 (by decide) | exact congrFun (f182 29 (by decide)) 38
                  try have u182_12 : σ182 29 39 = σ177 29 39 := by first | exact o182 39 (by decide) | exact congrFun (f182 29 (by decide)) 39
                  try have u182_13 : σ182 29 40 = σ177 29 40 := by first | exact o182 40 (by decide) | exact congrFun (f182 29 (by decide)) 40
                  try have u182_14 : σ182 29 41 = σ177 29 41 := by first | exact o182 41 (by decide) | exact congrFun (f182 29 (by decide)) 41
                  try have u182_15 : σ182 29 43 = σ177 29 43 := by first | exact o182 43 (by decide) | exact congrFun (f182 29 (by decide)) 43
                  refine pe_rv d_M_go_185 ?_
                  first | (exfalso; omega) | exact ⟨hB, (fun b hb => (f182 b (by simp at hb ⊢; try omega)).trans ((f177 b (by simp at hb ⊢; try omega)).trans ((f172 b (by simp at hb ⊢; try omega)).trans ((f167 b (by simp at hb ⊢; try omega)).trans ((f162 b (by simp at hb ⊢; try omega)).trans (rfl)))))), (fun j hj => (o182 j (by simp at hj ⊢; try omega)).trans ((o177 j (by simp at hj ⊢; try omega)).trans ((o172 j (by simp at hj ⊢; try omega)).trans ((o167 j (by simp at hj ⊢; try omega)).trans ((o162 j (by simp at hj ⊢; try omega)).trans (rfl)))))), by omega, 2, by omega, by omega⟩ | exact ⟨hB, (fun b hb => (f182 b (by simp at hb ⊢; try omega)).trans ((f177 b (by simp at hb ⊢; try omega)).trans ((f172 b (by simp at hb ⊢; try omega)).trans ((f167 b (by simp at hb ⊢; try omega)).trans ((f162 b (by simp at hb ⊢; try omega)).trans (rfl)))))), (fun j hj => (o182 j (by simp at hj ⊢; try omega)).trans ((o177 j (by simp at hj ⊢; try omega)).trans ((o172 j (by simp at hj ⊢; try omega)).trans ((o167 j (by simp at hj ⊢; try omega)).trans ((o162 j (by simp at hj ⊢; try omega)).trans (rfl)))))), by omega, 6, by omega, by omega⟩
                · skip
                  refine pe_aload_n d_M_go_144 rfl ?_
                  refine pe_bipush d_M_go_145 ?_
                  refine pe_any (fun v147 hv147 => ?_)
                  refine pe_v1v d_M_go_147 c_M_253 i_M_put s_M_put rfl rfl (y_M_put hB (by omega) (by first | exact hB _ _ | exact hB0 _ _ | exact hBt _ _ | exact ⟨by omega, by omega⟩)) (fun σ147 hz147 => ?_)
                  obtain ⟨hB, f147, o147, x147⟩ := hz147
                  try have u147_0 : σ147 29 1 = σ 29 1 := by first | exact o147 1 (by decide) | exact congrFun (f147 29 (by decide)) 1
                  try have u147_1 : σ147 29 2 = σ 29 2 := by first | exact o147 2 (by decide) | exact congrFun (f147 29 (by decide)) 2
                  try have u147_2 : σ147 29 3 = σ 29 3 := by first | exact o147 3 (by decide) | exact congrFun (f147 29 (by decide)) 3
                  try have u147_3 : σ147 29 7 = σ 29 7 := by first | exact o147 7 (by decide) | exact congrFun (f147 29 (by decide)) 7
                  try have u147_4 : σ147 29 21 = σ 29 21 := by first | exact o147 21 (by decide) | exact congrFun (f147 29 (by decide)) 21
                  try have u147_5 : σ147 29 22 = σ 29 22 := by first | exact o147 22 (by decide) | exact congrFun (f147 29 (by decide)) 22
                  try have u147_6 : σ147 29 27 = σ 29 27 := by first | exact o147 27 (by decide) | exact congrFun (f147 29 (by decide)) 27
                  try have u147_7 : σ147 29 30 = σ 29 30 := by first | exact o147 30 (by decide) | exact congrFun (f147 29 (by decide)) 30
                  try have u147_8 : σ147 29 31 = σ 29 31 := by first | exact o147 31 (by decide) | exact congrFun (f147 29 (by decide)) 31
                  try have u147_9 : σ147 29 36 = σ 29 36 := by first | exact o147 36 (by decide) | exact congrFun (f147 29 (by decide)) 36
                  try have u147_10 : σ147 29 37 = σ 29 37 := by first | exact o147 37 (by decide) | exact congrFun (f147 29 (by decide)) 37
                  try have u147_11 : σ147 29 38 = σ 29 38 := by first | exact o147 38 (by decide) | exact congrFun (f147 29 (by decide)) 38
                  try have u147_12 : σ147 29 39 = σ 29 39 := by first | exact o147 39 (by decide) | exact congrFun (f147 29 (by decide)) 39
                  try have u147_13 : σ147 29 40 = σ 29 40 := by first | exact o147 40 (by decide) | exact congrFun (f147 29 (by decide)) 40
                  try have u147_14 : σ147 29 41 = σ 29 41 := by first | exact o147 41 (by decide) | exact congrFun (f147 29 (by decide)) 41
                  try have u147_15 : σ147 29 43 = σ 29 43 := by first | exact o147 43 (by decide) | exact congrFun (f147 29 (by decide)) 43
                  refine pe_aload_n d_M_go_150 rfl ?_
                  refine pe_bipush d_M_go_151 ?_
                  refine pe_any (fun v153 hv153 => ?_)
                  refine pe_v1v d_M_go_153 c_M_253 i_M_put s_M_put rfl rfl (y_M_put hB (by omega) (by first | exact hB _ _ | exact hB0 _ _ | exact hBt _ _ | exact ⟨by omega, by omega⟩)) (fun σ153 hz153 => ?_)
                  obtain ⟨hB, f153, o153, x153⟩ := hz153
                  try have u153_0 : σ153 29 1 = σ147 29 1 := by first | exact o153 1 (by decide) | exact congrFun (f153 29 (by decide)) 1
                  try have u153_1 : σ153 29 2 = σ147 29 2 := by first | exact o153 2 (by decide) | exact congrFun (f153 29 (by decide)) 2
                  try have u153_2 : σ153 29 3 = σ147 29 3 := by first | exact o153 3 (by decide) | exact congrFun (f153 29 (by decide)) 3
                  try have u153_3 : σ153 29 7 = σ147 29 7 := by first | exact o153 7 (by decide) | exact congrFun (f153 29 (by decide)) 7
                  try have u153_4 : σ153 29 21 = σ147 29 21 := by first | exact o153 21 (by decide) | exact congrFun (f153 29 (by decide)) 21
                  try have u153_5 : σ153 29 22 = σ147 29 22 := by first | exact o153 22 (by decide) | exact congrFun (f153 29 (by decide)) 22
                  try have u153_6 : σ153 29 27 = σ147 29 27 := by first | exact o153 27 (by decide) | exact congrFun (f153 29 (by decide)) 27
                  try have u153_7 : σ153 29 30 = σ147 29 30 := by first | exact o153 30 (by decide) | exact congrFun (f153 29 (by decide)) 30
                  try have u153_8 : σ153 29 31 = σ147 29 31 := by first | exact o153 31 (by decide) | exact congrFun (f153 29 (by decide)) 31
                  try have u153_9 : σ153 29 36 = σ147 29 36 := by first | exact o153 36 (by decide) | exact congrFun (f153 29 (by decide)) 36
                  try have u153_10 : σ153 29 37 = σ147 29 37 := by first | exact o153 37 (by decide) | exact congrFun (f153 29 (by decide)) 37
                  try have u153_11 : σ153 29 38 = σ147 29 38 := by first | exact o153 38 (by decide) | exact congrFun (f153 29 (by decide)) 38
                  try have u153_12 : σ153 29 39 = σ147 29 39 := by first | exact o153 39 (by decide) | exact congrFun (f153 29 (by decide)) 39
                  try have u153_13 : σ153 29 40 = σ147 29 40 := by first | exact o153 40 (by decide) | exact congrFun (f153 29 (by decide)) 40
                  try have u153_14 : σ153 29 41 = σ147 29 41 := by first | exact o153 41 (by decide) | exact congrFun (f153 29 (by decide)) 41
                  try have u153_15 : σ153 29 43 = σ147 29 43 := by first | exact o153 43 (by decide) | exact congrFun (f153 29 (by decide)) 43
                  refine pe_goto (t := 165) d_M_go_156 ?_
                  refine pe_aload_n d_M_go_165 rfl ?_
                  refine pe_iload_n d_M_go_166 rfl ?_
                  refine pe_putiT f_M_263 g_11_36 d_M_go_167 rfl rfl 36 rfl hB (by first | exact hB _ _ | exact hB0 _ _ | exact hBt _ _ | exact ⟨by omega, by omega⟩) (fun σ167 hB e167 o167 f167 => ?_)
                  try have u167_0 : σ167 29 1 = σ153 29 1 := by first | exact o167 1 (by decide) | exact congrFun (f167 29 (by decide)) 1
                  try have u167_1 : σ167 29 2 = σ153 29 2 := by first | exact o167 2 (by decide) | exact congrFun (f167 29 (by decide)) 2
                  try have u167_2 : σ167 29 3 = σ153 29 3 := by first | exact o167 3 (by decide) | exact congrFun (f167 29 (by decide)) 3
                  try have u167_3 : σ167 29 7 = σ153 29 7 := by first | exact o167 7 (by decide) | exact congrFun (f167 29 (by decide)) 7
                  try have u167_4 : σ167 29 21 = σ153 29 21 := by first | exact o167 21 (by decide) | exact congrFun (f167 29 (by decide)) 21
                  try have u167_5 : σ167 29 22 = σ153 29 22 := by first | exact o167 22 (by decide) | exact congrFun (f167 29 (by decide)) 22
                  try have u167_6 : σ167 29 27 = σ153 29 27 := by first | exact o167 27 (by decide) | exact congrFun (f167 29 (by decide)) 27
                  try have u167_7 : σ167 29 30 = σ153 29 30 := by first | exact o167 30 (by decide) | exact congrFun (f167 29 (by decide)) 30
                  try have u167_8 : σ167 29 31 = σ153 29 31 := by first | exact o167 31 (by decide) | exact congrFun (f167 29 (by decide)) 31
                  try have u167_9 : σ167 29 36 = σ153 29 36 := by first | exact o167 36 (by decide) | exact congrFun (f167 29 (by decide)) 36
                  try have u167_10 : σ167 29 37 = σ153 29 37 := by first | exact o167 37 (by decide) | exact congrFun (f167 29 (by decide)) 37
                  try have u167_11 : σ167 29 38 = σ153 29 38 := by first | exact o167 38 (by decide) | exact congrFun (f167 29 (by decide)) 38
                  try have u167_12 : σ167 29 39 = σ153 29 39 := by first | exact o167 39 (by decide) | exact congrFun (f167 29 (by decide)) 39
                  try have u167_13 : σ167 29 40 = σ153 29 40 := by first | exact o167 40 (by decide) | exact congrFun (f167 29 (by decide)) 40
                  try have u167_14 : σ167 29 41 = σ153 29 41 := by first | exact o167 41 (by decide) | exact congrFun (f167 29 (by decide)) 41
                  try have u167_15 : σ167 29 43 = σ153 29 43 := by first | exact o167 43 (by decide) | exact congrFun (f167 29 (by decide)) 43
                  refine pe_aload_n d_M_go_170 rfl ?_
                  refine pe_iload_n d_M_go_171 rfl ?_
                  refine pe_putiT f_M_266 g_11_37 d_M_go_172 rfl rfl 37 rfl hB (by first | exact hB _ _ | exact hB0 _ _ | exact hBt _ _ | exact ⟨by omega, by omega⟩) (fun σ172 hB e172 o172 f172 => ?_)
                  try have u172_0 : σ172 29 1 = σ167 29 1 := by first | exact o172 1 (by decide) | exact congrFun (f172 29 (by decide)) 1
                  try have u172_1 : σ172 29 2 = σ167 29 2 := by first | exact o172 2 (by decide) | exact congrFun (f172 29 (by decide)) 2
                  try have u172_2 : σ172 29 3 = σ167 29 3 := by first | exact o172 3 (by decide) | exact congrFun (f172 29 (by decide)) 3
                  try have u172_3 : σ172 29 7 = σ167 29 7 := by first | exact o172 7 (by decide) | exact congrFun (f172 29 (by decide)) 7
                  try have u172_4 : σ172 29 21 = σ167 29 21 := by first | exact o172 21 (by decide) | exact congrFun (f172 29 (by decide)) 21
                  try have u172_5 : σ172 29 22 = σ167 29 22 := by first | exact o172 22 (by decide) | exact congrFun (f172 29 (by decide)) 22
                  try have u172_6 : σ172 29 27 = σ167 29 27 := by first | exact o172 27 (by decide) | exact congrFun (f172 29 (by decide)) 27
                  try have u172_7 : σ172 29 30 = σ167 29 30 := by first | exact o172 30 (by decide) | exact congrFun (f172 29 (by decide)) 30
                  try have u172_8 : σ172 29 31 = σ167 29 31 := by first | exact o172 31 (by decide) | exact congrFun (f172 29 (by decide)) 31
                  try have u172_9 : σ172 29 36 = σ167 29 36 := by first | exact o172 36 (by decide) | exact congrFun (f172 29 (by decide)) 36
                  try have u172_10 : σ172 29 37 = σ167 29 37 := by first | exact o172 37 (by decide) | exact congrFun (f172 29 (by decide)) 37
                  try have u172_11 : σ172 29 38 = σ167 29 38 := by first | exact o172 38 (by decide) | exact congrFun (f172 29 (by decide)) 38
                  try have u172_12 : σ172 29 39 = σ167 29 39 := by first | exact o172 39 (by decide) | exact congrFun (f172 29 (by decide)) 39
                  try have u172_13 : σ172 29 40 = σ167 29 40 := by first | exact o172 40 (by decide) | exact congrFun (f172 29 (by decide)) 40
                  try have u172_14 : σ172 29 41 = σ167 29 41 := by first | exact o172 41 (by decide) | exact congrFun (f172 29 (by decide)) 41
                  try have u172_15 : σ172 29 43 = σ167 29 43 := by first | exact o172 43 (by decide) | exact congrFun (f172 29 (by decide)) 43
                  refine pe_aload_n d_M_go_175 rfl ?_
                  refine pe_iconst d_M_go_176 ?_
                  refine pe_putzT f_M_260 g_11_38 d_M_go_177 rfl rfl (by first | exact Or.inl rfl | exact Or.inr rfl | omega) 38 rfl hB (fun σ177 hB e177 o177 f177 => ?_)
                  try have u177_0 : σ177 29 1 = σ172 29 1 := by first | exact o177 1 (by decide) | exact congrFun (f177 29 (by decide)) 1
                  try have u177_1 : σ177 29 2 = σ172 29 2 := by first | exact o177 2 (by decide) | exact congrFun (f177 29 (by decide)) 2
                  try have u177_2 : σ177 29 3 = σ172 29 3 := by first | exact o177 3 (by decide) | exact congrFun (f177 29 (by decide)) 3
                  try have u177_3 : σ177 29 7 = σ172 29 7 := by first | exact o177 7 (by decide) | exact congrFun (f177 29 (by decide)) 7
                  try have u177_4 : σ177 29 21 = σ172 29 21 := by first | exact o177 21 (by decide) | exact congrFun (f177 29 (by decide)) 21
                  try have u177_5 : σ177 29 22 = σ172 29 22 := by first | exact o177 22 (by decide) | exact congrFun (f177 29 (by decide)) 22
                  try have u177_6 : σ177 29 27 = σ172 29 27 := by first | exact o177 27 (by decide) | exact congrFun (f177 29 (by decide)) 27
                  try have u177_7 : σ177 29 30 = σ172 29 30 := by first | exact o177 30 (by decide) | exact congrFun (f177 29 (by decide)) 30
                  try have u177_8 : σ177 29 31 = σ172 29 31 := by first | exact o177 31 (by decide) | exact congrFun (f177 29 (by decide)) 31
                  try have u177_9 : σ177 29 36 = σ172 29 36 := by first | exact o177 36 (by decide) | exact congrFun (f177 29 (by decide)) 36
                  try have u177_10 : σ177 29 37 = σ172 29 37 := by first | exact o177 37 (by decide) | exact congrFun (f177 29 (by decide)) 37
                  try have u177_11 : σ177 29 38 = σ172 29 38 := by first | exact o177 38 (by decide) | exact congrFun (f177 29 (by decide)) 38
                  try have u177_12 : σ177 29 39 = σ172 29 39 := by first | exact o177 39 (by decide) | exact congrFun (f177 29 (by decide)) 39
                  try have u177_13 : σ177 29 40 = σ172 29 40 := by first | exact o177 40 (by decide) | exact congrFun (f177 29 (by decide)) 40
                  try have u177_14 : σ177 29 41 = σ172 29 41 := by first | exact o177 41 (by decide) | exact congrFun (f177 29 (by decide)) 41
                  try have u177_15 : σ177 29 43 = σ172 29 43 := by first | exact o177 43 (by decide) | exact congrFun (f177 29 (by decide)) 43
                  refine pe_aload_n d_M_go_180 rfl ?_
                  refine pe_iconst d_M_go_181 ?_
                  refine pe_putiT f_M_68 g_11_40 d_M_go_182 rfl rfl 40 rfl hB (by first | exact hB _ _ | exact hB0 _ _ | exact hBt _ _ | exact ⟨by omega, by omega⟩) (fun σ182 hB e182 o182 f182 => ?_)
                  try have u182_0 : σ182 29 1 = σ177 29 1 := by first | exact o182 1 (by decide) | exact congrFun (f182 29 (by decide)) 1
                  try have u182_1 : σ182 29 2 = σ177 29 2 := by first | exact o182 2 (by decide) | exact congrFun (f182 29 (by decide)) 2
                  try have u182_2 : σ182 29 3 = σ177 29 3 := by first | exact o182 3 (by decide) | exact congrFun (f182 29 (by decide)) 3
                  try have u182_3 : σ182 29 7 = σ177 29 7 := by first | exact o182 7 (by decide) | exact congrFun (f182 29 (by decide)) 7
                  try have u182_4 : σ182 29 21 = σ177 29 21 := by first | exact o182 21 (by decide) | exact congrFun (f182 29 (by decide)) 21
                  try have u182_5 : σ182 29 22 = σ177 29 22 := by first | exact o182 22 (by decide) | exact congrFun (f182 29 (by decide)) 22
                  try have u182_6 : σ182 29 27 = σ177 29 27 := by first | exact o182 27 (by decide) | exact congrFun (f182 29 (by decide)) 27
                  try have u182_7 : σ182 29 30 = σ177 29 30 := by first | exact o182 30 (by decide) | exact congrFun (f182 29 (by decide)) 30
                  try have u182_8 : σ182 29 31 = σ177 29 31 := by first | exact o182 31 (by decide) | exact congrFun (f182 29 (by decide)) 31
                  try have u182_9 : σ182 29 36 = σ177 29 36 := by first | exact o182 36 (by decide) | exact congrFun (f182 29 (by decide)) 36
                  try have u182_10 : σ182 29 37 = σ177 29 37 := by first | exact o182 37 (by decide) | exact congrFun (f182 29 (by decide)) 37
                  try have u182_11 : σ182 29 38 = σ177 29 38 := by first | exact o182 38 (by decide) | exact congrFun (f182 29 (by decide)) 38
                  try have u182_12 : σ182 29 39 = σ177 29 39 := by first | exact o182 39 (by decide) | exact congrFun (f182 29 (by decide)) 39
                  try have u182_13 : σ182 29 40 = σ177 29 40 := by first | exact o182 40 (by decide) | exact congrFun (f182 29 (by decide)) 40
                  try have u182_14 : σ182 29 41 = σ177 29 41 := by first | exact o182 41 (by decide) | exact congrFun (f182 29 (by decide)) 41
                  try have u182_15 : σ182 29 43 = σ177 29 43 := by first | exact o182 43 (by decide) | exact congrFun (f182 29 (by decide)) 43
                  refine pe_rv d_M_go_185 ?_
                  first | (exfalso; omega) | exact ⟨hB, (fun b hb => (f182 b (by simp at hb ⊢; try omega)).trans ((f177 b (by simp at hb ⊢; try omega)).trans ((f172 b (by simp at hb ⊢; try omega)).trans ((f167 b (by simp at hb ⊢; try omega)).trans ((f153 b (by simp at hb ⊢; try omega)).trans ((f147 b (by simp at hb ⊢; try omega)).trans (rfl))))))), (fun j hj => (o182 j (by simp at hj ⊢; try omega)).trans ((o177 j (by simp at hj ⊢; try omega)).trans ((o172 j (by simp at hj ⊢; try omega)).trans ((o167 j (by simp at hj ⊢; try omega)).trans ((o153 j (by simp at hj ⊢; try omega)).trans ((o147 j (by simp at hj ⊢; try omega)).trans (rfl))))))), by omega, 2, by omega, by omega⟩ | exact ⟨hB, (fun b hb => (f182 b (by simp at hb ⊢; try omega)).trans ((f177 b (by simp at hb ⊢; try omega)).trans ((f172 b (by simp at hb ⊢; try omega)).trans ((f167 b (by simp at hb ⊢; try omega)).trans ((f153 b (by simp at hb ⊢; try omega)).trans ((f147 b (by simp at hb ⊢; try omega)).trans (rfl))))))), (fun j hj => (o182 j (by simp at hj ⊢; try omega)).trans ((o177 j (by simp at hj ⊢; try omega)).trans ((o172 j (by simp at hj ⊢; try omega)).trans ((o167 j (by simp at hj ⊢; try omega)).trans ((o153 j (by simp at hj ⊢; try omega)).trans ((o147 j (by simp at hj ⊢; try omega)).trans (rfl))))))), by omega, 6, by omega, by omega⟩
            · skip
              exfalso; omega
          · skip
            exfalso; omega
        · skip
          exfalso; omega
      · skip
        refine pe_rv d_M_go_39 ?_
        first | (exfalso; omega) | exact ⟨hB, (fun b hb => rfl), (fun j hj => rfl), by omega, 0, by omega, by omega⟩
  refine pe_iload_n d_M_go_0 rfl ?_
  refine pe_aload_n d_M_go_1 rfl ?_
  refine pe_geti f_M_263 d_M_go_2 rfl rfl 36 rfl ?_
  refine pe_icmp_ne (t := 27) d_M_go_5 (by first | exact hB _ _ | exact hB0 _ _ | exact hBt _ _ | exact ⟨by omega, by omega⟩) (by first | exact hB _ _ | exact hB0 _ _ | exact hBt _ _ | exact ⟨by omega, by omega⟩) (fun h5 => ?_) (fun h5 => ?_)
  · skip
    refine pe_iconst d_M_go_27 ?_
    refine pe_istore d_M_go_28 ?_
    first | (exfalso; omega) | exact J30 _ (by omega)
  · skip
    refine pe_iload_n d_M_go_8 rfl ?_
    refine pe_aload_n d_M_go_9 rfl ?_
    refine pe_geti f_M_266 d_M_go_10 rfl rfl 37 rfl ?_
    refine pe_icmp_ne (t := 27) d_M_go_13 (by first | exact hB _ _ | exact hB0 _ _ | exact hBt _ _ | exact ⟨by omega, by omega⟩) (by first | exact hB _ _ | exact hB0 _ _ | exact hBt _ _ | exact ⟨by omega, by omega⟩) (fun h13 => ?_) (fun h13 => ?_)
    · skip
      refine pe_iconst d_M_go_27 ?_
      refine pe_istore d_M_go_28 ?_
      first | (exfalso; omega) | exact J30 _ (by omega)
    · skip
      refine pe_aload_n d_M_go_16 rfl ?_
      refine pe_geti f_M_260 d_M_go_17 rfl rfl 38 rfl ?_
      refine pe_if_ne (t := 27) d_M_go_20 (by first | exact hB _ _ | exact hB0 _ _ | exact hBt _ _ | exact ⟨by omega, by omega⟩) (fun h20 => ?_) (fun h20 => ?_)
      · skip
        refine pe_iconst d_M_go_27 ?_
        refine pe_istore d_M_go_28 ?_
        first | (exfalso; omega) | exact J30 _ (by omega)
      · skip
        refine pe_iconst d_M_go_23 ?_
        refine pe_goto (t := 28) d_M_go_24 ?_
        refine pe_istore d_M_go_28 ?_
        first | (exfalso; omega) | exact J30 _ (by omega)
theorem y_M_putCode {σ : pe_H} {k : Int} (hB : pe_B σ) (hq : 0 ≤ σ 29 43 ∧ σ 29 43 ≤ 5900) (hk : 32 ≤ k ∧ k ≤ 126) : pe_M m_M_putCode [pe_r 29, pe_i k] σ (pe_qv (fun σ' => pe_B σ' ∧ (∀ b, b ∉ [29, 46] → σ' b = σ b) ∧ (∀ j, j ∉ ([43] : List Int) → σ' 29 j = σ 29 j) ∧ σ' 29 43 = σ 29 43 + 1)) := by
  refine pe_in0 (lv := [some (pe_r 29), some (pe_i k)]) ?_
  have hB0 := hB
  refine pe_iload_n d_M_putCode_0 rfl ?_
  refine pe_sipush d_M_putCode_1 ?_
  refine pe_icmp_ge (t := 15) d_M_putCode_4 (by first | exact hB _ _ | exact hB0 _ _ | exact hBt _ _ | exact ⟨by omega, by omega⟩) (by first | exact hB _ _ | exact hB0 _ _ | exact hBt _ _ | exact ⟨by omega, by omega⟩) (fun h4 => ?_) (fun h4 => ?_)
  · skip
    exfalso; omega
  · skip
    refine pe_aload_n d_M_putCode_7 rfl ?_
    refine pe_iload_n d_M_putCode_8 rfl ?_
    refine pe_v1v d_M_putCode_9 c_M_253 i_M_put s_M_put rfl rfl (y_M_put hB (by omega) (by first | exact hB _ _ | exact hB0 _ _ | exact hBt _ _ | exact ⟨by omega, by omega⟩)) (fun σ9 hz9 => ?_)
    obtain ⟨hB, f9, o9, x9⟩ := hz9
    try have u9_0 : σ9 29 1 = σ 29 1 := by first | exact o9 1 (by decide) | exact congrFun (f9 29 (by decide)) 1
    try have u9_1 : σ9 29 2 = σ 29 2 := by first | exact o9 2 (by decide) | exact congrFun (f9 29 (by decide)) 2
    try have u9_2 : σ9 29 3 = σ 29 3 := by first | exact o9 3 (by decide) | exact congrFun (f9 29 (by decide)) 3
    try have u9_3 : σ9 29 7 = σ 29 7 := by first | exact o9 7 (by decide) | exact congrFun (f9 29 (by decide)) 7
    try have u9_4 : σ9 29 21 = σ 29 21 := by first | exact o9 21 (by decide) | exact congrFun (f9 29 (by decide)) 21
    try have u9_5 : σ9 29 22 = σ 29 22 := by first | exact o9 22 (by decide) | exact congrFun (f9 29 (by decide)) 22
    try have u9_6 : σ9 29 27 = σ 29 27 := by first | exact o9 27 (by decide) | exact congrFun (f9 29 (by decide)) 27
    try have u9_7 : σ9 29 30 = σ 29 30 := by first | exact o9 30 (by decide) | exact congrFun (f9 29 (by decide)) 30
    try have u9_8 : σ9 29 31 = σ 29 31 := by first | exact o9 31 (by decide) | exact congrFun (f9 29 (by decide)) 31
    try have u9_9 : σ9 29 36 = σ 29 36 := by first | exact o9 36 (by decide) | exact congrFun (f9 29 (by decide)) 36
    try have u9_10 : σ9 29 37 = σ 29 37 := by first | exact o9 37 (by decide) | exact congrFun (f9 29 (by decide)) 37
    try have u9_11 : σ9 29 38 = σ 29 38 := by first | exact o9 38 (by decide) | exact congrFun (f9 29 (by decide)) 38
    try have u9_12 : σ9 29 39 = σ 29 39 := by first | exact o9 39 (by decide) | exact congrFun (f9 29 (by decide)) 39
    try have u9_13 : σ9 29 40 = σ 29 40 := by first | exact o9 40 (by decide) | exact congrFun (f9 29 (by decide)) 40
    try have u9_14 : σ9 29 41 = σ 29 41 := by first | exact o9 41 (by decide) | exact congrFun (f9 29 (by decide)) 41
    try have u9_15 : σ9 29 43 = σ 29 43 := by first | exact o9 43 (by decide) | exact congrFun (f9 29 (by decide)) 43
    refine pe_goto (t := 88) d_M_putCode_12 ?_
    refine pe_rv d_M_putCode_88 ?_
    exact ⟨hB, (fun b hb => (f9 b (by simp at hb ⊢; try omega)).trans (rfl)), (fun j hj => (o9 j (by simp at hj ⊢; try omega)).trans (rfl)), by omega⟩
theorem y_M_blankHalf {σ : pe_H} {a : Int} (hB : pe_B σ) (ha : 0 ≤ a ∧ a < 192) (hv : 32 ≤ σ 42 a ∧ σ 42 a ≤ 126) : pe_M m_M_blankHalf [pe_r 29, pe_i a] σ (pe_qv (fun σ' => σ' = σ)) := by
  refine pe_in0 (lv := [some (pe_r 29), some (pe_i a)]) ?_
  have hB0 := hB
  refine pe_aload_n d_M_blankHalf_0 rfl ?_
  refine pe_getr f_M_56 d_M_blankHalf_1 rfl rfl ?_
  refine pe_iload_n d_M_blankHalf_4 rfl ?_
  refine pe_iald d_M_blankHalf_5 rfl (by omega) (by omega) ?_
  refine pe_if_ne (t := 31) d_M_blankHalf_6 (by first | exact hB _ _ | exact hB0 _ _ | exact hBt _ _ | exact ⟨by omega, by omega⟩) (fun h6 => ?_) (fun h6 => ?_)
  · skip
    refine pe_aload_n d_M_blankHalf_31 rfl ?_
    refine pe_getr f_M_56 d_M_blankHalf_32 rfl rfl ?_
    refine pe_iload_n d_M_blankHalf_35 rfl ?_
    refine pe_iald d_M_blankHalf_36 rfl (by omega) (by omega) ?_
    refine pe_ldcw q_M_256 d_M_blankHalf_37 (z := 65535) rfl ?_
    refine pe_iand d_M_blankHalf_40 (pe_a127 ⟨by omega, by omega⟩).1 ?_
    refine pe_s1p d_M_blankHalf_41 c_M_97 z_M_isWide (t_M_isWide (by first | exact hB _ _ | exact hB0 _ _ | exact hBt _ _ | exact ⟨by omega, by omega⟩)) (fun z41 hz41 => ?_)
    unfold pe_wi at hz41
    refine pe_if_eq (t := 66) d_M_blankHalf_44 (by first | exact hB _ _ | exact hB0 _ _ | exact hBt _ _ | exact ⟨by omega, by omega⟩) (fun h44 => ?_) (fun h44 => ?_)
    · skip
      refine pe_rv d_M_blankHalf_66 ?_
      rfl
    · skip
      exfalso; omega
  · skip
    exfalso; omega
theorem pe_rowput {f g : Int → Int} {b i k n : Int} (h : ∀ j, 0 ≤ j → j < n → 32 ≤ f (b + j) ∧ f (b + j) ≤ 126) (e : g (b + i) = k) (hk : 32 ≤ k ∧ k ≤ 126) (o : ∀ j, j ≠ b + i → g j = f j) : ∀ j, 0 ≤ j → j < n → 32 ≤ g (b + j) ∧ g (b + j) ≤ 126 := by
  intro j h1 h2
  by_cases q : j = i
  · rw [q, e]; exact hk
  · rw [o _ (by omega)]; exact h j h1 h2
set_option maxHeartbeats 2000000 in
theorem y_M_write {σ : pe_H} {k : Int} (hB : pe_B σ) (hq : 0 ≤ σ 29 43 ∧ σ 29 43 ≤ 5800) (hW : 1 ≤ σ 29 21 ∧ σ 29 21 ≤ 24 ∧ 1 ≤ σ 29 22 ∧ σ 29 22 ≤ 8) (hp : 0 ≤ σ 29 36 ∧ σ 29 36 < σ 29 22 ∧ 0 ≤ σ 29 37 ∧ σ 29 37 < σ 29 21 ∧ σ 29 38 = 0) (hz : ∀ j, 0 ≤ j → j < σ 29 21 → 32 ≤ σ 42 (σ 29 21 * σ 29 36 + j) ∧ σ 42 (σ 29 21 * σ 29 36 + j) ≤ 126) (hk : 32 ≤ k ∧ k ≤ 126) : pe_M m_M_write [pe_r 29, pe_i k] σ (pe_qv (fun σ' => pe_B σ' ∧ (∀ b, b ∉ [29, 42, 43, 46] → σ' b = σ b) ∧ (∀ j, j ∉ ([37, 38, 40, 43] : List Int) → σ' 29 j = σ 29 j) ∧ (σ' 29 43 = σ 29 43 + 1 ∧ (σ 29 37 + 1 < σ 29 21 → σ' 29 37 = σ 29 37 + 1 ∧ σ' 29 38 = 0)) ∧ ∀ j, 0 ≤ j → j < σ 29 21 → 32 ≤ σ' 42 (σ 29 21 * σ 29 36 + j) ∧ σ' 42 (σ 29 21 * σ 29 36 + j) ≤ 126)) := by
  refine pe_in0 (lv := [some (pe_r 29), some (pe_i k), none, none]) ?_
  have hB0 := hB
  have hix := pe_ix (r := σ 29 36) (c := σ 29 37) (H := σ 29 22) (W := σ 29 21) (by omega) (by omega) (by omega) (by omega)
  have h0 := hz (σ 29 37) (by omega) (by omega)
  refine pe_aload_n d_M_write_0 rfl ?_
  refine pe_iload_n d_M_write_1 rfl ?_
  refine pe_v1v d_M_write_2 c_M_257 i_M_putCode s_M_putCode rfl rfl (y_M_putCode hB (by omega) (by omega)) (fun σ2 hz2 => ?_)
  obtain ⟨hB, f2, o2, x2⟩ := hz2
  try have u2_0 : σ2 29 1 = σ 29 1 := by first | exact o2 1 (by decide) | exact congrFun (f2 29 (by decide)) 1
  try have u2_1 : σ2 29 2 = σ 29 2 := by first | exact o2 2 (by decide) | exact congrFun (f2 29 (by decide)) 2
  try have u2_2 : σ2 29 3 = σ 29 3 := by first | exact o2 3 (by decide) | exact congrFun (f2 29 (by decide)) 3
  try have u2_3 : σ2 29 7 = σ 29 7 := by first | exact o2 7 (by decide) | exact congrFun (f2 29 (by decide)) 7
  try have u2_4 : σ2 29 21 = σ 29 21 := by first | exact o2 21 (by decide) | exact congrFun (f2 29 (by decide)) 21
  try have u2_5 : σ2 29 22 = σ 29 22 := by first | exact o2 22 (by decide) | exact congrFun (f2 29 (by decide)) 22
  try have u2_6 : σ2 29 27 = σ 29 27 := by first | exact o2 27 (by decide) | exact congrFun (f2 29 (by decide)) 27
  try have u2_7 : σ2 29 30 = σ 29 30 := by first | exact o2 30 (by decide) | exact congrFun (f2 29 (by decide)) 30
  try have u2_8 : σ2 29 31 = σ 29 31 := by first | exact o2 31 (by decide) | exact congrFun (f2 29 (by decide)) 31
  try have u2_9 : σ2 29 36 = σ 29 36 := by first | exact o2 36 (by decide) | exact congrFun (f2 29 (by decide)) 36
  try have u2_10 : σ2 29 37 = σ 29 37 := by first | exact o2 37 (by decide) | exact congrFun (f2 29 (by decide)) 37
  try have u2_11 : σ2 29 38 = σ 29 38 := by first | exact o2 38 (by decide) | exact congrFun (f2 29 (by decide)) 38
  try have u2_12 : σ2 29 39 = σ 29 39 := by first | exact o2 39 (by decide) | exact congrFun (f2 29 (by decide)) 39
  try have u2_13 : σ2 29 40 = σ 29 40 := by first | exact o2 40 (by decide) | exact congrFun (f2 29 (by decide)) 40
  try have u2_14 : σ2 29 41 = σ 29 41 := by first | exact o2 41 (by decide) | exact congrFun (f2 29 (by decide)) 41
  try have u2_15 : σ2 29 43 = σ 29 43 := by first | exact o2 43 (by decide) | exact congrFun (f2 29 (by decide)) 43
  have c42 := f2 42 (by decide)
  have ei : σ2 29 21 * σ2 29 36 + σ2 29 37 = σ 29 21 * σ 29 36 + σ 29 37 := by rw [u2_4, u2_9, u2_10]
  refine pe_iload_n d_M_write_5 rfl ?_
  refine pe_s1p d_M_write_6 c_M_90 z_M_isMark (t_M_isMark (by first | exact hB _ _ | exact hB0 _ _ | exact hBt _ _ | exact ⟨by omega, by omega⟩)) (fun z6 hz6 => ?_)
  refine pe_if_eq (t := 73) d_M_write_9 (by first | exact hB _ _ | exact hB0 _ _ | exact hBt _ _ | exact ⟨by omega, by omega⟩) (fun h9 => ?_) (fun h9 => ?_)
  · skip
    refine pe_aload_n d_M_write_73 rfl ?_
    refine pe_geti f_M_260 d_M_write_74 rfl rfl 38 rfl ?_
    refine pe_if_eq (t := 120) d_M_write_77 (by first | exact hB _ _ | exact hB0 _ _ | exact hBt _ _ | exact ⟨by omega, by omega⟩) (fun h77 => ?_) (fun h77 => ?_)
    · skip
      refine pe_iload_n d_M_write_120 rfl ?_
      refine pe_s1p d_M_write_121 c_M_97 z_M_isWide (t_M_isWide (by first | exact hB _ _ | exact hB0 _ _ | exact hBt _ _ | exact ⟨by omega, by omega⟩)) (fun z121 hz121 => ?_)
      unfold pe_wi at hz121
      refine pe_if_eq (t := 131) d_M_write_124 (by first | exact hB _ _ | exact hB0 _ _ | exact hBt _ _ | exact ⟨by omega, by omega⟩) (fun h124 => ?_) (fun h124 => ?_)
      · skip
        refine pe_iconst d_M_write_131 ?_
        refine pe_istore_n d_M_write_132 ?_
        refine pe_aload_n d_M_write_133 rfl ?_
        refine pe_geti f_M_78 d_M_write_134 rfl rfl 21 rfl ?_
        refine pe_aload_n d_M_write_137 rfl ?_
        refine pe_geti f_M_263 d_M_write_138 rfl rfl 36 rfl ?_
        refine pe_imul d_M_write_141 ?_
        refine pe_aload_n d_M_write_142 rfl ?_
        refine pe_geti f_M_266 d_M_write_143 rfl rfl 37 rfl ?_
        refine pe_iadd d_M_write_146 ?_
        rw [ei]
        refine pe_istore_n d_M_write_147 ?_
        refine pe_aload_n d_M_write_148 rfl ?_
        refine pe_iload_n d_M_write_149 rfl ?_
        refine pe_v1v d_M_write_150 c_M_269 i_M_blankHalf s_M_blankHalf rfl rfl (y_M_blankHalf hB (by omega) (by rw [c42]; exact h0)) (fun σ150 hz150 => ?_)
        rw [hz150]
        refine pe_iload_n d_M_write_153 rfl ?_
        refine pe_iconst d_M_write_154 ?_
        refine pe_icmp_ne (t := 165) d_M_write_155 (by first | exact hB _ _ | exact hB0 _ _ | exact hBt _ _ | exact ⟨by omega, by omega⟩) (by first | exact hB _ _ | exact hB0 _ _ | exact hBt _ _ | exact ⟨by omega, by omega⟩) (fun h155 => ?_) (fun h155 => ?_)
        · skip
          refine pe_aload_n d_M_write_165 rfl ?_
          refine pe_getr f_M_56 d_M_write_166 rfl rfl ?_
          refine pe_iload_n d_M_write_169 rfl ?_
          refine pe_iload_n d_M_write_170 rfl ?_
          refine pe_iastT d_M_write_171 rfl (by omega) (by omega) hB (by first | exact hB _ _ | exact hB0 _ _ | exact hBt _ _ | exact ⟨by omega, by omega⟩) (fun σ171 hB e171 o171 f171 => ?_)
          try have u171_0 : σ171 29 1 = σ2 29 1 := by first | exact o171 1 (by decide) | exact congrFun (f171 29 (by decide)) 1
          try have u171_1 : σ171 29 2 = σ2 29 2 := by first | exact o171 2 (by decide) | exact congrFun (f171 29 (by decide)) 2
          try have u171_2 : σ171 29 3 = σ2 29 3 := by first | exact o171 3 (by decide) | exact congrFun (f171 29 (by decide)) 3
          try have u171_3 : σ171 29 7 = σ2 29 7 := by first | exact o171 7 (by decide) | exact congrFun (f171 29 (by decide)) 7
          try have u171_4 : σ171 29 21 = σ2 29 21 := by first | exact o171 21 (by decide) | exact congrFun (f171 29 (by decide)) 21
          try have u171_5 : σ171 29 22 = σ2 29 22 := by first | exact o171 22 (by decide) | exact congrFun (f171 29 (by decide)) 22
          try have u171_6 : σ171 29 27 = σ2 29 27 := by first | exact o171 27 (by decide) | exact congrFun (f171 29 (by decide)) 27
          try have u171_7 : σ171 29 30 = σ2 29 30 := by first | exact o171 30 (by decide) | exact congrFun (f171 29 (by decide)) 30
          try have u171_8 : σ171 29 31 = σ2 29 31 := by first | exact o171 31 (by decide) | exact congrFun (f171 29 (by decide)) 31
          try have u171_9 : σ171 29 36 = σ2 29 36 := by first | exact o171 36 (by decide) | exact congrFun (f171 29 (by decide)) 36
          try have u171_10 : σ171 29 37 = σ2 29 37 := by first | exact o171 37 (by decide) | exact congrFun (f171 29 (by decide)) 37
          try have u171_11 : σ171 29 38 = σ2 29 38 := by first | exact o171 38 (by decide) | exact congrFun (f171 29 (by decide)) 38
          try have u171_12 : σ171 29 39 = σ2 29 39 := by first | exact o171 39 (by decide) | exact congrFun (f171 29 (by decide)) 39
          try have u171_13 : σ171 29 40 = σ2 29 40 := by first | exact o171 40 (by decide) | exact congrFun (f171 29 (by decide)) 40
          try have u171_14 : σ171 29 41 = σ2 29 41 := by first | exact o171 41 (by decide) | exact congrFun (f171 29 (by decide)) 41
          try have u171_15 : σ171 29 43 = σ2 29 43 := by first | exact o171 43 (by decide) | exact congrFun (f171 29 (by decide)) 43
          refine pe_aload_n d_M_write_172 rfl ?_
          refine pe_getr f_M_59 d_M_write_173 rfl rfl ?_
          refine pe_iload_n d_M_write_176 rfl ?_
          refine pe_aload_n d_M_write_177 rfl ?_
          refine pe_geti f_M_272 d_M_write_178 rfl rfl 39 rfl ?_
          refine pe_iastT d_M_write_181 rfl (by omega) (by omega) hB (by first | exact hB _ _ | exact hB0 _ _ | exact hBt _ _ | exact ⟨by omega, by omega⟩) (fun σ181 hB e181 o181 f181 => ?_)
          try have u181_0 : σ181 29 1 = σ171 29 1 := by first | exact o181 1 (by decide) | exact congrFun (f181 29 (by decide)) 1
          try have u181_1 : σ181 29 2 = σ171 29 2 := by first | exact o181 2 (by decide) | exact congrFun (f181 29 (by decide)) 2
          try have u181_2 : σ181 29 3 = σ171 29 3 := by first | exact o181 3 (by decide) | exact congrFun (f181 29 (by decide)) 3
          try have u181_3 : σ181 29 7 = σ171 29 7 := by first | exact o181 7 (by decide) | exact congrFun (f181 29 (by decide)) 7
          try have u181_4 : σ181 29 21 = σ171 29 21 := by first | exact o181 21 (by decide) | exact congrFun (f181 29 (by decide)) 21
          try have u181_5 : σ181 29 22 = σ171 29 22 := by first | exact o181 22 (by decide) | exact congrFun (f181 29 (by decide)) 22
          try have u181_6 : σ181 29 27 = σ171 29 27 := by first | exact o181 27 (by decide) | exact congrFun (f181 29 (by decide)) 27
          try have u181_7 : σ181 29 30 = σ171 29 30 := by first | exact o181 30 (by decide) | exact congrFun (f181 29 (by decide)) 30
          try have u181_8 : σ181 29 31 = σ171 29 31 := by first | exact o181 31 (by decide) | exact congrFun (f181 29 (by decide)) 31
          try have u181_9 : σ181 29 36 = σ171 29 36 := by first | exact o181 36 (by decide) | exact congrFun (f181 29 (by decide)) 36
          try have u181_10 : σ181 29 37 = σ171 29 37 := by first | exact o181 37 (by decide) | exact congrFun (f181 29 (by decide)) 37
          try have u181_11 : σ181 29 38 = σ171 29 38 := by first | exact o181 38 (by decide) | exact congrFun (f181 29 (by decide)) 38
          try have u181_12 : σ181 29 39 = σ171 29 39 := by first | exact o181 39 (by decide) | exact congrFun (f181 29 (by decide)) 39
          try have u181_13 : σ181 29 40 = σ171 29 40 := by first | exact o181 40 (by decide) | exact congrFun (f181 29 (by decide)) 40
          try have u181_14 : σ181 29 41 = σ171 29 41 := by first | exact o181 41 (by decide) | exact congrFun (f181 29 (by decide)) 41
          try have u181_15 : σ181 29 43 = σ171 29 43 := by first | exact o181 43 (by decide) | exact congrFun (f181 29 (by decide)) 43
          refine pe_iload_n d_M_write_182 rfl ?_
          refine pe_iconst d_M_write_183 ?_
          refine pe_icmp_ne (t := 208) d_M_write_184 (by first | exact hB _ _ | exact hB0 _ _ | exact hBt _ _ | exact ⟨by omega, by omega⟩) (by first | exact hB _ _ | exact hB0 _ _ | exact hBt _ _ | exact ⟨by omega, by omega⟩) (fun h184 => ?_) (fun h184 => ?_)
          · skip
            refine pe_aload_n d_M_write_208 rfl ?_
            refine pe_iload_n d_M_write_209 rfl ?_
            refine pe_putiT f_M_68 g_11_40 d_M_write_210 rfl rfl 40 rfl hB (by first | exact hB _ _ | exact hB0 _ _ | exact hBt _ _ | exact ⟨by omega, by omega⟩) (fun σ210 hB e210 o210 f210 => ?_)
            try have u210_0 : σ210 29 1 = σ181 29 1 := by first | exact o210 1 (by decide) | exact congrFun (f210 29 (by decide)) 1
            try have u210_1 : σ210 29 2 = σ181 29 2 := by first | exact o210 2 (by decide) | exact congrFun (f210 29 (by decide)) 2
            try have u210_2 : σ210 29 3 = σ181 29 3 := by first | exact o210 3 (by decide) | exact congrFun (f210 29 (by decide)) 3
            try have u210_3 : σ210 29 7 = σ181 29 7 := by first | exact o210 7 (by decide) | exact congrFun (f210 29 (by decide)) 7
            try have u210_4 : σ210 29 21 = σ181 29 21 := by first | exact o210 21 (by decide) | exact congrFun (f210 29 (by decide)) 21
            try have u210_5 : σ210 29 22 = σ181 29 22 := by first | exact o210 22 (by decide) | exact congrFun (f210 29 (by decide)) 22
            try have u210_6 : σ210 29 27 = σ181 29 27 := by first | exact o210 27 (by decide) | exact congrFun (f210 29 (by decide)) 27
            try have u210_7 : σ210 29 30 = σ181 29 30 := by first | exact o210 30 (by decide) | exact congrFun (f210 29 (by decide)) 30
            try have u210_8 : σ210 29 31 = σ181 29 31 := by first | exact o210 31 (by decide) | exact congrFun (f210 29 (by decide)) 31
            try have u210_9 : σ210 29 36 = σ181 29 36 := by first | exact o210 36 (by decide) | exact congrFun (f210 29 (by decide)) 36
            try have u210_10 : σ210 29 37 = σ181 29 37 := by first | exact o210 37 (by decide) | exact congrFun (f210 29 (by decide)) 37
            try have u210_11 : σ210 29 38 = σ181 29 38 := by first | exact o210 38 (by decide) | exact congrFun (f210 29 (by decide)) 38
            try have u210_12 : σ210 29 39 = σ181 29 39 := by first | exact o210 39 (by decide) | exact congrFun (f210 29 (by decide)) 39
            try have u210_13 : σ210 29 40 = σ181 29 40 := by first | exact o210 40 (by decide) | exact congrFun (f210 29 (by decide)) 40
            try have u210_14 : σ210 29 41 = σ181 29 41 := by first | exact o210 41 (by decide) | exact congrFun (f210 29 (by decide)) 41
            try have u210_15 : σ210 29 43 = σ181 29 43 := by first | exact o210 43 (by decide) | exact congrFun (f210 29 (by decide)) 43
            refine pe_aload_n d_M_write_213 rfl ?_
            refine pe_dup d_M_write_214 ?_
            refine pe_geti f_M_266 d_M_write_215 rfl rfl 37 rfl ?_
            refine pe_iload_n d_M_write_218 rfl ?_
            refine pe_iadd d_M_write_219 ?_
            refine pe_putiT f_M_266 g_11_37 d_M_write_220 rfl rfl 37 rfl hB (by first | exact hB _ _ | exact hB0 _ _ | exact hBt _ _ | exact ⟨by omega, by omega⟩) (fun σ220 hB e220 o220 f220 => ?_)
            try have u220_0 : σ220 29 1 = σ210 29 1 := by first | exact o220 1 (by decide) | exact congrFun (f220 29 (by decide)) 1
            try have u220_1 : σ220 29 2 = σ210 29 2 := by first | exact o220 2 (by decide) | exact congrFun (f220 29 (by decide)) 2
            try have u220_2 : σ220 29 3 = σ210 29 3 := by first | exact o220 3 (by decide) | exact congrFun (f220 29 (by decide)) 3
            try have u220_3 : σ220 29 7 = σ210 29 7 := by first | exact o220 7 (by decide) | exact congrFun (f220 29 (by decide)) 7
            try have u220_4 : σ220 29 21 = σ210 29 21 := by first | exact o220 21 (by decide) | exact congrFun (f220 29 (by decide)) 21
            try have u220_5 : σ220 29 22 = σ210 29 22 := by first | exact o220 22 (by decide) | exact congrFun (f220 29 (by decide)) 22
            try have u220_6 : σ220 29 27 = σ210 29 27 := by first | exact o220 27 (by decide) | exact congrFun (f220 29 (by decide)) 27
            try have u220_7 : σ220 29 30 = σ210 29 30 := by first | exact o220 30 (by decide) | exact congrFun (f220 29 (by decide)) 30
            try have u220_8 : σ220 29 31 = σ210 29 31 := by first | exact o220 31 (by decide) | exact congrFun (f220 29 (by decide)) 31
            try have u220_9 : σ220 29 36 = σ210 29 36 := by first | exact o220 36 (by decide) | exact congrFun (f220 29 (by decide)) 36
            try have u220_10 : σ220 29 37 = σ210 29 37 := by first | exact o220 37 (by decide) | exact congrFun (f220 29 (by decide)) 37
            try have u220_11 : σ220 29 38 = σ210 29 38 := by first | exact o220 38 (by decide) | exact congrFun (f220 29 (by decide)) 38
            try have u220_12 : σ220 29 39 = σ210 29 39 := by first | exact o220 39 (by decide) | exact congrFun (f220 29 (by decide)) 39
            try have u220_13 : σ220 29 40 = σ210 29 40 := by first | exact o220 40 (by decide) | exact congrFun (f220 29 (by decide)) 40
            try have u220_14 : σ220 29 41 = σ210 29 41 := by first | exact o220 41 (by decide) | exact congrFun (f220 29 (by decide)) 41
            try have u220_15 : σ220 29 43 = σ210 29 43 := by first | exact o220 43 (by decide) | exact congrFun (f220 29 (by decide)) 43
            refine pe_aload_n d_M_write_223 rfl ?_
            refine pe_geti f_M_266 d_M_write_224 rfl rfl 37 rfl ?_
            refine pe_aload_n d_M_write_227 rfl ?_
            refine pe_geti f_M_78 d_M_write_228 rfl rfl 21 rfl ?_
            refine pe_icmp_ne (t := 249) d_M_write_231 (by first | exact hB _ _ | exact hB0 _ _ | exact hBt _ _ | exact ⟨by omega, by omega⟩) (by first | exact hB _ _ | exact hB0 _ _ | exact hBt _ _ | exact ⟨by omega, by omega⟩) (fun h231 => ?_) (fun h231 => ?_)
            · skip
              refine pe_rv d_M_write_249 ?_
              exact ⟨hB, (fun b hb => (f220 b (by simp at hb ⊢; try omega)).trans ((f210 b (by simp at hb ⊢; try omega)).trans ((f181 b (by simp at hb ⊢; try omega)).trans ((f171 b (by simp at hb ⊢; try omega)).trans ((f2 b (by simp at hb ⊢; try omega)).trans (rfl)))))), (fun j hj => (o220 j (by simp at hj ⊢; try omega)).trans ((o210 j (by simp at hj ⊢; try omega)).trans ((congrFun (f181 29 (by decide)) j).trans ((congrFun (f171 29 (by decide)) j).trans ((o2 j (by simp at hj ⊢; try omega)).trans (rfl)))))), by omega, by rw [((f220 42 (by decide)).trans ((f210 42 (by decide)).trans ((f181 42 (by decide)).trans (rfl))))]; exact pe_rowput (g := σ171 42) hz e171 hk (fun j hj => (o171 j hj).trans (congrFun c42 j))⟩
            · skip
              refine pe_aload_n d_M_write_234 rfl ?_
              refine pe_aload_n d_M_write_235 rfl ?_
              refine pe_geti f_M_78 d_M_write_236 rfl rfl 21 rfl ?_
              refine pe_iconst d_M_write_239 ?_
              refine pe_isub d_M_write_240 ?_
              refine pe_putiT f_M_266 g_11_37 d_M_write_241 rfl rfl 37 rfl hB (by first | exact hB _ _ | exact hB0 _ _ | exact hBt _ _ | exact ⟨by omega, by omega⟩) (fun σ241 hB e241 o241 f241 => ?_)
              try have u241_0 : σ241 29 1 = σ220 29 1 := by first | exact o241 1 (by decide) | exact congrFun (f241 29 (by decide)) 1
              try have u241_1 : σ241 29 2 = σ220 29 2 := by first | exact o241 2 (by decide) | exact congrFun (f241 29 (by decide)) 2
              try have u241_2 : σ241 29 3 = σ220 29 3 := by first | exact o241 3 (by decide) | exact congrFun (f241 29 (by decide)) 3
              try have u241_3 : σ241 29 7 = σ220 29 7 := by first | exact o241 7 (by decide) | exact congrFun (f241 29 (by decide)) 7
              try have u241_4 : σ241 29 21 = σ220 29 21 := by first | exact o241 21 (by decide) | exact congrFun (f241 29 (by decide)) 21
              try have u241_5 : σ241 29 22 = σ220 29 22 := by first | exact o241 22 (by decide) | exact congrFun (f241 29 (by decide)) 22
              try have u241_6 : σ241 29 27 = σ220 29 27 := by first | exact o241 27 (by decide) | exact congrFun (f241 29 (by decide)) 27
              try have u241_7 : σ241 29 30 = σ220 29 30 := by first | exact o241 30 (by decide) | exact congrFun (f241 29 (by decide)) 30
              try have u241_8 : σ241 29 31 = σ220 29 31 := by first | exact o241 31 (by decide) | exact congrFun (f241 29 (by decide)) 31
              try have u241_9 : σ241 29 36 = σ220 29 36 := by first | exact o241 36 (by decide) | exact congrFun (f241 29 (by decide)) 36
              try have u241_10 : σ241 29 37 = σ220 29 37 := by first | exact o241 37 (by decide) | exact congrFun (f241 29 (by decide)) 37
              try have u241_11 : σ241 29 38 = σ220 29 38 := by first | exact o241 38 (by decide) | exact congrFun (f241 29 (by decide)) 38
              try have u241_12 : σ241 29 39 = σ220 29 39 := by first | exact o241 39 (by decide) | exact congrFun (f241 29 (by decide)) 39
              try have u241_13 : σ241 29 40 = σ220 29 40 := by first | exact o241 40 (by decide) | exact congrFun (f241 29 (by decide)) 40
              try have u241_14 : σ241 29 41 = σ220 29 41 := by first | exact o241 41 (by decide) | exact congrFun (f241 29 (by decide)) 41
              try have u241_15 : σ241 29 43 = σ220 29 43 := by first | exact o241 43 (by decide) | exact congrFun (f241 29 (by decide)) 43
              refine pe_aload_n d_M_write_244 rfl ?_
              refine pe_iconst d_M_write_245 ?_
              refine pe_putzT f_M_260 g_11_38 d_M_write_246 rfl rfl (by first | exact Or.inl rfl | exact Or.inr rfl | omega) 38 rfl hB (fun σ246 hB e246 o246 f246 => ?_)
              try have u246_0 : σ246 29 1 = σ241 29 1 := by first | exact o246 1 (by decide) | exact congrFun (f246 29 (by decide)) 1
              try have u246_1 : σ246 29 2 = σ241 29 2 := by first | exact o246 2 (by decide) | exact congrFun (f246 29 (by decide)) 2
              try have u246_2 : σ246 29 3 = σ241 29 3 := by first | exact o246 3 (by decide) | exact congrFun (f246 29 (by decide)) 3
              try have u246_3 : σ246 29 7 = σ241 29 7 := by first | exact o246 7 (by decide) | exact congrFun (f246 29 (by decide)) 7
              try have u246_4 : σ246 29 21 = σ241 29 21 := by first | exact o246 21 (by decide) | exact congrFun (f246 29 (by decide)) 21
              try have u246_5 : σ246 29 22 = σ241 29 22 := by first | exact o246 22 (by decide) | exact congrFun (f246 29 (by decide)) 22
              try have u246_6 : σ246 29 27 = σ241 29 27 := by first | exact o246 27 (by decide) | exact congrFun (f246 29 (by decide)) 27
              try have u246_7 : σ246 29 30 = σ241 29 30 := by first | exact o246 30 (by decide) | exact congrFun (f246 29 (by decide)) 30
              try have u246_8 : σ246 29 31 = σ241 29 31 := by first | exact o246 31 (by decide) | exact congrFun (f246 29 (by decide)) 31
              try have u246_9 : σ246 29 36 = σ241 29 36 := by first | exact o246 36 (by decide) | exact congrFun (f246 29 (by decide)) 36
              try have u246_10 : σ246 29 37 = σ241 29 37 := by first | exact o246 37 (by decide) | exact congrFun (f246 29 (by decide)) 37
              try have u246_11 : σ246 29 38 = σ241 29 38 := by first | exact o246 38 (by decide) | exact congrFun (f246 29 (by decide)) 38
              try have u246_12 : σ246 29 39 = σ241 29 39 := by first | exact o246 39 (by decide) | exact congrFun (f246 29 (by decide)) 39
              try have u246_13 : σ246 29 40 = σ241 29 40 := by first | exact o246 40 (by decide) | exact congrFun (f246 29 (by decide)) 40
              try have u246_14 : σ246 29 41 = σ241 29 41 := by first | exact o246 41 (by decide) | exact congrFun (f246 29 (by decide)) 41
              try have u246_15 : σ246 29 43 = σ241 29 43 := by first | exact o246 43 (by decide) | exact congrFun (f246 29 (by decide)) 43
              refine pe_rv d_M_write_249 ?_
              exact ⟨hB, (fun b hb => (f246 b (by simp at hb ⊢; try omega)).trans ((f241 b (by simp at hb ⊢; try omega)).trans ((f220 b (by simp at hb ⊢; try omega)).trans ((f210 b (by simp at hb ⊢; try omega)).trans ((f181 b (by simp at hb ⊢; try omega)).trans ((f171 b (by simp at hb ⊢; try omega)).trans ((f2 b (by simp at hb ⊢; try omega)).trans (rfl)))))))), (fun j hj => (o246 j (by simp at hj ⊢; try omega)).trans ((o241 j (by simp at hj ⊢; try omega)).trans ((o220 j (by simp at hj ⊢; try omega)).trans ((o210 j (by simp at hj ⊢; try omega)).trans ((congrFun (f181 29 (by decide)) j).trans ((congrFun (f171 29 (by decide)) j).trans ((o2 j (by simp at hj ⊢; try omega)).trans (rfl)))))))), by omega, by rw [((f246 42 (by decide)).trans ((f241 42 (by decide)).trans ((f220 42 (by decide)).trans ((f210 42 (by decide)).trans ((f181 42 (by decide)).trans (rfl))))))]; exact pe_rowput (g := σ171 42) hz e171 hk (fun j hj => (o171 j hj).trans (congrFun c42 j))⟩
          · skip
            exfalso; omega
        · skip
          exfalso; omega
      · skip
        exfalso; omega
    · skip
      exfalso; omega
  · skip
    exfalso; omega
