theorem t_T_beginningAhead {σ : pe_H} {p : Int} (hB : pe_B σ) (hp : 0 ≤ p ∧ p ≤ σ 3 1) (hl : 0 ≤ σ 3 1 ∧ σ 3 1 ≤ 200) : pe_M m_T_beginningAhead [pe_r 3, pe_i p] σ (pe_qp σ (fun z => 0 ≤ z ∧ z ≤ p ∧ z ≤ σ 3 1)) := by
  refine pe_in0 (lv := [some (pe_r 3), some (pe_i p), none]) ?_
  have hB0 := hB
  have J4 : ∀ f : Int, (-1 ≤ f ∧ f < p) → pe_G m_T_beginningAhead 4 [some (pe_r 3), some (pe_i p), some (pe_i f)] [] σ (pe_qp σ (fun z => 0 ≤ z ∧ z ≤ p ∧ z ≤ σ 3 1)) := by
    refine pe_loop (fun f : Int => (f + 10).toNat) _ _ ?_
    intro f hI ih
    refine pe_iload_n d_T_beginningAhead_4 rfl ?_
    refine pe_if_le (t := 22) d_T_beginningAhead_5 (by first | exact hB _ _ | exact hB0 _ _ | exact hBt _ _ | exact ⟨by omega, by omega⟩) (fun h5 => ?_) (fun h5 => ?_)
    · skip
      refine pe_iload_n d_T_beginningAhead_22 rfl ?_
      refine pe_iconst d_T_beginningAhead_23 ?_
      refine pe_maxT c_T_47 d_T_beginningAhead_24 (by first | exact hB _ _ | exact hB0 _ _ | exact hBt _ _ | exact ⟨by omega, by omega⟩) (by first | exact hB _ _ | exact hB0 _ _ | exact hBt _ _ | exact ⟨by omega, by omega⟩) (fun z24 hz24 => ?_)
      refine pe_ri d_T_beginningAhead_27 ?_
      exact ⟨rfl, by (try dsimp only); omega⟩
    · skip
      refine pe_aload_n d_T_beginningAhead_8 rfl ?_
      refine pe_iload_n d_T_beginningAhead_9 rfl ?_
      refine pe_v1p d_T_beginningAhead_10 c_T_38 i_T_isBeginning s_T_isBeginning rfl rfl (t_T_isBeginning hB (by omega) (by omega)) (fun z10 hz10 => ?_)
      refine pe_if_ne (t := 22) d_T_beginningAhead_13 (by first | exact hB _ _ | exact hB0 _ _ | exact hBt _ _ | exact ⟨by omega, by omega⟩) (fun h13 => ?_) (fun h13 => ?_)
      · skip
        refine pe_iload_n d_T_beginningAhead_22 rfl ?_
        refine pe_iconst d_T_beginningAhead_23 ?_
        refine pe_maxT c_T_47 d_T_beginningAhead_24 (by first | exact hB _ _ | exact hB0 _ _ | exact hBt _ _ | exact ⟨by omega, by omega⟩) (by first | exact hB _ _ | exact hB0 _ _ | exact hBt _ _ | exact ⟨by omega, by omega⟩) (fun z24 hz24 => ?_)
        refine pe_ri d_T_beginningAhead_27 ?_
        exact ⟨rfl, by (try dsimp only); omega⟩
      · skip
        refine pe_iinc d_T_beginningAhead_16 rfl ?_
        refine pe_goto (t := 4) d_T_beginningAhead_19 ?_
        exact ih _ (by omega) (by omega)
  refine pe_iload_n d_T_beginningAhead_0 rfl ?_
  refine pe_iconst d_T_beginningAhead_1 ?_
  refine pe_isub d_T_beginningAhead_2 ?_
  refine pe_istore_n d_T_beginningAhead_3 ?_
  exact J4 _ (by omega)
theorem t_T_lineBeginning {σ : pe_H} {p : Int} (hB : pe_B σ) (hp : 0 ≤ p ∧ p ≤ σ 3 1) (hl : 0 ≤ σ 3 1 ∧ σ 3 1 ≤ 200) : pe_M m_T_lineBeginning [pe_r 3, pe_i p] σ (pe_qp σ (fun z => 0 ≤ z ∧ z ≤ σ 3 1)) := by
  refine pe_in0 (lv := [some (pe_r 3), some (pe_i p), none]) ?_
  have hB0 := hB
  have J2 : ∀ f : Int, (0 ≤ f ∧ f ≤ σ 3 1) → pe_G m_T_lineBeginning 2 [some (pe_r 3), some (pe_i p), some (pe_i f)] [] σ (pe_qp σ (fun z => 0 ≤ z ∧ z ≤ σ 3 1)) := by
    refine pe_loop (fun f : Int => (f + 10).toNat) _ _ ?_
    intro f hI ih
    refine pe_iload_n d_T_lineBeginning_2 rfl ?_
    refine pe_if_le (t := 24) d_T_lineBeginning_3 (by first | exact hB _ _ | exact hB0 _ _ | exact hBt _ _ | exact ⟨by omega, by omega⟩) (fun h3 => ?_) (fun h3 => ?_)
    · skip
      refine pe_iload_n d_T_lineBeginning_24 rfl ?_
      refine pe_ri d_T_lineBeginning_25 ?_
      exact ⟨rfl, by (try dsimp only); omega⟩
    · skip
      refine pe_aload_n d_T_lineBeginning_6 rfl ?_
      refine pe_iload_n d_T_lineBeginning_7 rfl ?_
      refine pe_iconst d_T_lineBeginning_8 ?_
      refine pe_isub d_T_lineBeginning_9 ?_
      refine pe_v1p d_T_lineBeginning_10 c_T_25 i_T_codeAt s_T_codeAt rfl rfl (t_T_codeAt hB (by first | exact hB _ _ | exact hB0 _ _ | exact hBt _ _ | exact ⟨by omega, by omega⟩) (by omega)) (fun z10 hz10 => ?_)
      have hR10 : pe_R z10 := by rw [hz10]; split <;> first | exact hB _ _ | exact ⟨by omega, by omega⟩
      refine pe_bipush d_T_lineBeginning_13 ?_
      refine pe_icmp_eq (t := 24) d_T_lineBeginning_15 (by first | exact hB _ _ | exact hB0 _ _ | exact hBt _ _ | exact ⟨by omega, by omega⟩) (by first | exact hB _ _ | exact hB0 _ _ | exact hBt _ _ | exact ⟨by omega, by omega⟩) (fun h15 => ?_) (fun h15 => ?_)
      · skip
        refine pe_iload_n d_T_lineBeginning_24 rfl ?_
        refine pe_ri d_T_lineBeginning_25 ?_
        exact ⟨rfl, by (try dsimp only); omega⟩
      · skip
        refine pe_iinc d_T_lineBeginning_18 rfl ?_
        refine pe_goto (t := 2) d_T_lineBeginning_21 ?_
        exact ih _ (by omega) (by omega)
  refine pe_iload_n d_T_lineBeginning_0 rfl ?_
  refine pe_istore_n d_T_lineBeginning_1 ?_
  exact J2 _ (by omega)
theorem t_T_lineEnd {σ : pe_H} {p : Int} (hB : pe_B σ) (hp : 0 ≤ p ∧ p ≤ σ 3 1) (hl : 0 ≤ σ 3 1 ∧ σ 3 1 ≤ 200) : pe_M m_T_lineEnd [pe_r 3, pe_i p] σ (pe_qp σ (fun z => 0 ≤ z ∧ z ≤ σ 3 1)) := by
  refine pe_in0 (lv := [some (pe_r 3), some (pe_i p), none]) ?_
  have hB0 := hB
  have J2 : ∀ f : Int, (0 ≤ f ∧ f ≤ σ 3 1) → pe_G m_T_lineEnd 2 [some (pe_r 3), some (pe_i p), some (pe_i f)] [] σ (pe_qp σ (fun z => 0 ≤ z ∧ z ≤ σ 3 1)) := by
    refine pe_loop (fun f : Int => (300 - f).toNat) _ _ ?_
    intro f hI ih
    refine pe_iload_n d_T_lineEnd_2 rfl ?_
    refine pe_aload_n d_T_lineEnd_3 rfl ?_
    refine pe_geti f_T_15 d_T_lineEnd_4 rfl rfl 1 rfl ?_
    refine pe_icmp_ge (t := 26) d_T_lineEnd_7 (by first | exact hB _ _ | exact hB0 _ _ | exact hBt _ _ | exact ⟨by omega, by omega⟩) (by first | exact hB _ _ | exact hB0 _ _ | exact hBt _ _ | exact ⟨by omega, by omega⟩) (fun h7 => ?_) (fun h7 => ?_)
    · skip
      refine pe_iload_n d_T_lineEnd_26 rfl ?_
      refine pe_ri d_T_lineEnd_27 ?_
      exact ⟨rfl, by (try dsimp only); omega⟩
    · skip
      refine pe_aload_n d_T_lineEnd_10 rfl ?_
      refine pe_iload_n d_T_lineEnd_11 rfl ?_
      refine pe_v1p d_T_lineEnd_12 c_T_25 i_T_codeAt s_T_codeAt rfl rfl (t_T_codeAt hB (by first | exact hB _ _ | exact hB0 _ _ | exact hBt _ _ | exact ⟨by omega, by omega⟩) (by omega)) (fun z12 hz12 => ?_)
      have hR12 : pe_R z12 := by rw [hz12]; split <;> first | exact hB _ _ | exact ⟨by omega, by omega⟩
      refine pe_bipush d_T_lineEnd_15 ?_
      refine pe_icmp_eq (t := 26) d_T_lineEnd_17 (by first | exact hB _ _ | exact hB0 _ _ | exact hBt _ _ | exact ⟨by omega, by omega⟩) (by first | exact hB _ _ | exact hB0 _ _ | exact hBt _ _ | exact ⟨by omega, by omega⟩) (fun h17 => ?_) (fun h17 => ?_)
      · skip
        refine pe_iload_n d_T_lineEnd_26 rfl ?_
        refine pe_ri d_T_lineEnd_27 ?_
        exact ⟨rfl, by (try dsimp only); omega⟩
      · skip
        refine pe_iinc d_T_lineEnd_20 rfl ?_
        refine pe_goto (t := 2) d_T_lineEnd_23 ?_
        exact ih _ (by omega) (by omega)
  refine pe_iload_n d_T_lineEnd_0 rfl ?_
  refine pe_istore_n d_T_lineEnd_1 ?_
  exact J2 _ (by omega)
theorem t_T_lineNumber {σ : pe_H} {p : Int} (hB : pe_B σ) (hp : 0 ≤ p ∧ p ≤ σ 3 1) (hl : 0 ≤ σ 3 1 ∧ σ 3 1 ≤ 200) : pe_M m_T_lineNumber [pe_r 3, pe_i p] σ (pe_qp σ (fun z => 1 ≤ z ∧ z ≤ p + 1)) := by
  refine pe_in0 (lv := [some (pe_r 3), some (pe_i p), none, none]) ?_
  have hB0 := hB
  have J4 : ∀ fs : Int × Int, (0 ≤ fs.2 ∧ fs.2 ≤ p ∧ 1 ≤ fs.1 ∧ fs.1 ≤ fs.2 + 1) → pe_G m_T_lineNumber 4 [some (pe_r 3), some (pe_i p), some (pe_i fs.1), some (pe_i fs.2)] [] σ (pe_qp σ (fun z => 1 ≤ z ∧ z ≤ p + 1)) := by
    refine pe_loop (fun fs : Int × Int => (300 - fs.2).toNat) _ _ ?_
    intro fs hI ih
    obtain ⟨n, f⟩ := fs
    dsimp only at hI ⊢
    refine pe_iload_n d_T_lineNumber_4 rfl ?_
    refine pe_iload_n d_T_lineNumber_5 rfl ?_
    refine pe_icmp_ge (t := 28) d_T_lineNumber_6 (by first | exact hB _ _ | exact hB0 _ _ | exact hBt _ _ | exact ⟨by omega, by omega⟩) (by first | exact hB _ _ | exact hB0 _ _ | exact hBt _ _ | exact ⟨by omega, by omega⟩) (fun h6 => ?_) (fun h6 => ?_)
    · skip
      refine pe_iload_n d_T_lineNumber_28 rfl ?_
      refine pe_ri d_T_lineNumber_29 ?_
      exact ⟨rfl, by (try dsimp only); omega⟩
    · skip
      refine pe_aload_n d_T_lineNumber_9 rfl ?_
      refine pe_iload_n d_T_lineNumber_10 rfl ?_
      refine pe_v1p d_T_lineNumber_11 c_T_25 i_T_codeAt s_T_codeAt rfl rfl (t_T_codeAt hB (by first | exact hB _ _ | exact hB0 _ _ | exact hBt _ _ | exact ⟨by omega, by omega⟩) (by omega)) (fun z11 hz11 => ?_)
      have hR11 : pe_R z11 := by rw [hz11]; split <;> first | exact hB _ _ | exact ⟨by omega, by omega⟩
      refine pe_bipush d_T_lineNumber_14 ?_
      refine pe_icmp_ne (t := 22) d_T_lineNumber_16 (by first | exact hB _ _ | exact hB0 _ _ | exact hBt _ _ | exact ⟨by omega, by omega⟩) (by first | exact hB _ _ | exact hB0 _ _ | exact hBt _ _ | exact ⟨by omega, by omega⟩) (fun h16 => ?_) (fun h16 => ?_)
      · skip
        refine pe_iinc d_T_lineNumber_22 rfl ?_
        refine pe_goto (t := 4) d_T_lineNumber_25 ?_
        exact ih (_, _) (by (try dsimp only); omega) (by (try dsimp only); omega)
      · skip
        refine pe_iinc d_T_lineNumber_19 rfl ?_
        refine pe_iinc d_T_lineNumber_22 rfl ?_
        refine pe_goto (t := 4) d_T_lineNumber_25 ?_
        exact ih (_, _) (by (try dsimp only); omega) (by (try dsimp only); omega)
  refine pe_iconst d_T_lineNumber_0 ?_
  refine pe_istore_n d_T_lineNumber_1 ?_
  refine pe_iconst d_T_lineNumber_2 ?_
  refine pe_istore_n d_T_lineNumber_3 ?_
  exact J4 (1, 0) (by (try dsimp only); omega)
theorem t_T_clusterAt {σ : pe_H} {p : Int} (hB : pe_B σ) (hp : 0 ≤ p ∧ p ≤ σ 3 1) (hl : 0 ≤ σ 3 1 ∧ σ 3 1 ≤ 200) : pe_M m_T_clusterAt [pe_r 3, pe_i p] σ (pe_qp σ (fun z => pe_R z)) := by
  refine pe_in0 (lv := [some (pe_r 3), some (pe_i p), none, none, none, none]) ?_
  have hB0 := hB
  have J31 : ∀ fs : Int × Int × Int × Int, ((0 ≤ fs.2.2.2 ∧ fs.2.2.2 ≤ 300) ∧ (0 ≤ fs.2.2.1 ∧ fs.2.2.1 ≤ 200) ∧ pe_R fs.2.1) → pe_G m_T_clusterAt 31 [some (pe_r 3), some (pe_i p), some (pe_i fs.1), some (pe_i fs.2.1), some (pe_i fs.2.2.1), some (pe_i fs.2.2.2)] [] σ (pe_qp σ (fun z => pe_R z)) := by
    refine pe_loop (fun fs : Int × Int × Int × Int => (300 - fs.2.2.2).toNat) _ _ ?_
    intro fs hI ih
    obtain ⟨c, u, e, f⟩ := fs
    dsimp only at hI ⊢
    refine pe_iload d_T_clusterAt_31 rfl ?_
    refine pe_iload d_T_clusterAt_33 rfl ?_
    refine pe_icmp_ge (t := 55) d_T_clusterAt_35 (by first | exact hB _ _ | exact hB0 _ _ | exact hBt _ _ | exact ⟨by omega, by omega⟩) (by first | exact hB _ _ | exact hB0 _ _ | exact hBt _ _ | exact ⟨by omega, by omega⟩) (fun h35 => ?_) (fun h35 => ?_)
    · skip
      refine pe_iload_n d_T_clusterAt_55 rfl ?_
      refine pe_ri d_T_clusterAt_56 ?_
      exact ⟨rfl, by first | exact hI.2.2 | exact ⟨by omega, by omega⟩⟩
    · skip
      refine pe_iload_n d_T_clusterAt_38 rfl ?_
      refine pe_aload_n d_T_clusterAt_39 rfl ?_
      refine pe_iload d_T_clusterAt_40 rfl ?_
      refine pe_v1p d_T_clusterAt_42 c_T_25 i_T_codeAt s_T_codeAt rfl rfl (t_T_codeAt hB (by first | exact hB _ _ | exact hB0 _ _ | exact hBt _ _ | exact ⟨by omega, by omega⟩) (by omega)) (fun z42 hz42 => ?_)
      have hR42 : pe_R z42 := by rw [hz42]; split <;> first | exact hB _ _ | exact ⟨by omega, by omega⟩
      refine pe_s2p d_T_clusterAt_45 c_T_53 z_C_withMark (t_C_withMark hI.2.2 hR42) (fun z45 hz45 => ?_)
      refine pe_istore_n d_T_clusterAt_48 ?_
      refine pe_iinc d_T_clusterAt_49 rfl ?_
      refine pe_goto (t := 31) d_T_clusterAt_52 ?_
      exact ih (_, _, _, _) (by (try dsimp only); exact ⟨by omega, by omega, hz45⟩) (by (try dsimp only); omega)
  refine pe_aload_n d_T_clusterAt_0 rfl ?_
  refine pe_iload_n d_T_clusterAt_1 rfl ?_
  refine pe_v1p d_T_clusterAt_2 c_T_25 i_T_codeAt s_T_codeAt rfl rfl (t_T_codeAt hB (by first | exact hB _ _ | exact hB0 _ _ | exact hBt _ _ | exact ⟨by omega, by omega⟩) (by omega)) (fun z2 hz2 => ?_)
  have hR2 : pe_R z2 := by rw [hz2]; split <;> first | exact hB _ _ | exact ⟨by omega, by omega⟩
  refine pe_istore_n d_T_clusterAt_5 ?_
  refine pe_iload_n d_T_clusterAt_6 rfl ?_
  refine pe_bipush d_T_clusterAt_7 ?_
  refine pe_icmp_ge (t := 15) d_T_clusterAt_9 (by first | exact hB _ _ | exact hB0 _ _ | exact hBt _ _ | exact ⟨by omega, by omega⟩) (by first | exact hB _ _ | exact hB0 _ _ | exact hBt _ _ | exact ⟨by omega, by omega⟩) (fun h9 => ?_) (fun h9 => ?_)
  · skip
    refine pe_iload_n d_T_clusterAt_15 rfl ?_
    refine pe_istore_n d_T_clusterAt_16 ?_
    refine pe_aload_n d_T_clusterAt_17 rfl ?_
    refine pe_iload_n d_T_clusterAt_18 rfl ?_
    refine pe_iconst d_T_clusterAt_19 ?_
    refine pe_iadd d_T_clusterAt_20 ?_
    refine pe_v1p d_T_clusterAt_21 c_T_50 i_T_beginningFrom s_T_beginningFrom rfl rfl (t_T_beginningFrom hB (by omega) (by omega)) (fun z21 hz21 => ?_)
    refine pe_istore d_T_clusterAt_24 ?_
    refine pe_iload_n d_T_clusterAt_26 rfl ?_
    refine pe_iconst d_T_clusterAt_27 ?_
    refine pe_iadd d_T_clusterAt_28 ?_
    refine pe_istore d_T_clusterAt_29 ?_
    exact J31 (_, _, _, _) (by (try dsimp only); exact ⟨by omega, by omega, by first | assumption | omega⟩)
  · skip
    refine pe_bipush d_T_clusterAt_12 ?_
    refine pe_ri d_T_clusterAt_14 ?_
    exact ⟨rfl, by first | exact hI.2.2 | exact ⟨by omega, by omega⟩⟩
theorem pe_ni2 {b x y : Nat} (h : b ∉ [x, y]) : b ≠ x ∧ b ≠ y := ⟨fun q => h (by rw [q]; simp), fun q => h (by rw [q]; simp)⟩
theorem pe_ni3 {b x y z : Nat} (h : b ∉ [x, y, z]) : b ≠ x ∧ b ∉ [y, z] := ⟨fun q => h (by rw [q]; simp), fun q => h (List.mem_cons_of_mem _ q)⟩
theorem t_T_insert_16 {σ : pe_H} {p f n : Int} (hB : pe_B σ) (hp : 0 ≤ p ∧ p ≤ σ 3 1) (hn : 0 ≤ n ∧ σ 3 1 + n ≤ 200) (hf : 0 ≤ f ∧ f + n ≤ 1) : pe_M m_T_insert [pe_r 3, pe_i p, pe_r 16, pe_i f, pe_i n] σ (pe_qv (fun σ' => pe_B σ' ∧ (∀ b, b ∉ [3, 4] → σ' b = σ b) ∧ σ' 3 1 = σ 3 1 + n)) := by
  refine pe_in0 (lv := [some (pe_r 3), some (pe_i p), some (pe_r 16), some (pe_i f), some (pe_i n)]) ?_
  have hB0 := hB
  refine pe_aload_n d_T_insert_0 rfl ?_
  refine pe_getr f_T_9 d_T_insert_1 rfl rfl ?_
  refine pe_iload_n d_T_insert_4 rfl ?_
  refine pe_aload_n d_T_insert_5 rfl ?_
  refine pe_getr f_T_9 d_T_insert_6 rfl rfl ?_
  refine pe_iload_n d_T_insert_9 rfl ?_
  refine pe_iload d_T_insert_10 rfl ?_
  refine pe_iadd d_T_insert_12 ?_
  refine pe_aload_n d_T_insert_13 rfl ?_
  refine pe_geti f_T_15 d_T_insert_14 rfl rfl 1 rfl ?_
  refine pe_iload_n d_T_insert_17 rfl ?_
  refine pe_isub d_T_insert_18 ?_
  refine pe_acopyT c_T_19 d_T_insert_19 rfl rfl (by omega) (by omega) (by omega) (by omega) (by omega) hB (fun σ19 hB e19 f19 => ?_)
  have o19 := f19
  try have u19_0 : σ19 3 1 = σ 3 1 := by first | exact o19 1 (by decide) | exact congrFun (f19 3 (by decide)) 1
  refine pe_aload_n d_T_insert_22 rfl ?_
  refine pe_iload_n d_T_insert_23 rfl ?_
  refine pe_aload_n d_T_insert_24 rfl ?_
  refine pe_getr f_T_9 d_T_insert_25 rfl rfl ?_
  refine pe_iload_n d_T_insert_28 rfl ?_
  refine pe_iload d_T_insert_29 rfl ?_
  refine pe_acopyT c_T_19 d_T_insert_31 rfl rfl (by omega) (by omega) (by omega) (by omega) (by omega) hB (fun σ31 hB e31 f31 => ?_)
  have o31 := f31
  try have u31_0 : σ31 3 1 = σ19 3 1 := by first | exact o31 1 (by decide) | exact congrFun (f31 3 (by decide)) 1
  refine pe_aload_n d_T_insert_34 rfl ?_
  refine pe_dup d_T_insert_35 ?_
  refine pe_geti f_T_15 d_T_insert_36 rfl rfl 1 rfl ?_
  refine pe_iload d_T_insert_39 rfl ?_
  refine pe_iadd d_T_insert_41 ?_
  refine pe_putiT f_T_15 g_3_1 d_T_insert_42 rfl rfl 1 rfl hB (by first | exact hB _ _ | exact hB0 _ _ | exact hBt _ _ | exact ⟨by omega, by omega⟩) (fun σ42 hB e42 o42 f42 => ?_)
  try have u42_0 : σ42 3 1 = σ31 3 1 := by first | exact o42 1 (by decide) | exact congrFun (f42 3 (by decide)) 1
  refine pe_rv d_T_insert_45 ?_
  exact ⟨hB, (fun b hb => (f42 b (by simp at hb ⊢; try omega)).trans ((f31 b (by simp at hb ⊢; try omega)).trans ((f19 b (by simp at hb ⊢; try omega)).trans (rfl)))), by omega⟩
theorem t_T_insert_15 {σ : pe_H} {p f n : Int} (hB : pe_B σ) (hp : 0 ≤ p ∧ p ≤ σ 3 1) (hn : 0 ≤ n ∧ σ 3 1 + n ≤ 200) (hf : 0 ≤ f ∧ f + n ≤ 200) : pe_M m_T_insert [pe_r 3, pe_i p, pe_r 15, pe_i f, pe_i n] σ (pe_qv (fun σ' => pe_B σ' ∧ (∀ b, b ∉ [3, 4] → σ' b = σ b) ∧ σ' 3 1 = σ 3 1 + n)) := by
  refine pe_in0 (lv := [some (pe_r 3), some (pe_i p), some (pe_r 15), some (pe_i f), some (pe_i n)]) ?_
  have hB0 := hB
  refine pe_aload_n d_T_insert_0 rfl ?_
  refine pe_getr f_T_9 d_T_insert_1 rfl rfl ?_
  refine pe_iload_n d_T_insert_4 rfl ?_
  refine pe_aload_n d_T_insert_5 rfl ?_
  refine pe_getr f_T_9 d_T_insert_6 rfl rfl ?_
  refine pe_iload_n d_T_insert_9 rfl ?_
  refine pe_iload d_T_insert_10 rfl ?_
  refine pe_iadd d_T_insert_12 ?_
  refine pe_aload_n d_T_insert_13 rfl ?_
  refine pe_geti f_T_15 d_T_insert_14 rfl rfl 1 rfl ?_
  refine pe_iload_n d_T_insert_17 rfl ?_
  refine pe_isub d_T_insert_18 ?_
  refine pe_acopyT c_T_19 d_T_insert_19 rfl rfl (by omega) (by omega) (by omega) (by omega) (by omega) hB (fun σ19 hB e19 f19 => ?_)
  have o19 := f19
  try have u19_0 : σ19 3 1 = σ 3 1 := by first | exact o19 1 (by decide) | exact congrFun (f19 3 (by decide)) 1
  refine pe_aload_n d_T_insert_22 rfl ?_
  refine pe_iload_n d_T_insert_23 rfl ?_
  refine pe_aload_n d_T_insert_24 rfl ?_
  refine pe_getr f_T_9 d_T_insert_25 rfl rfl ?_
  refine pe_iload_n d_T_insert_28 rfl ?_
  refine pe_iload d_T_insert_29 rfl ?_
  refine pe_acopyT c_T_19 d_T_insert_31 rfl rfl (by omega) (by omega) (by omega) (by omega) (by omega) hB (fun σ31 hB e31 f31 => ?_)
  have o31 := f31
  try have u31_0 : σ31 3 1 = σ19 3 1 := by first | exact o31 1 (by decide) | exact congrFun (f31 3 (by decide)) 1
  refine pe_aload_n d_T_insert_34 rfl ?_
  refine pe_dup d_T_insert_35 ?_
  refine pe_geti f_T_15 d_T_insert_36 rfl rfl 1 rfl ?_
  refine pe_iload d_T_insert_39 rfl ?_
  refine pe_iadd d_T_insert_41 ?_
  refine pe_putiT f_T_15 g_3_1 d_T_insert_42 rfl rfl 1 rfl hB (by first | exact hB _ _ | exact hB0 _ _ | exact hBt _ _ | exact ⟨by omega, by omega⟩) (fun σ42 hB e42 o42 f42 => ?_)
  try have u42_0 : σ42 3 1 = σ31 3 1 := by first | exact o42 1 (by decide) | exact congrFun (f42 3 (by decide)) 1
  refine pe_rv d_T_insert_45 ?_
  exact ⟨hB, (fun b hb => (f42 b (by simp at hb ⊢; try omega)).trans ((f31 b (by simp at hb ⊢; try omega)).trans ((f19 b (by simp at hb ⊢; try omega)).trans (rfl)))), by omega⟩
theorem t_T_insert_10 {σ : pe_H} {p f n : Int} (hB : pe_B σ) (hp : 0 ≤ p ∧ p ≤ σ 3 1) (hn : 0 ≤ n ∧ σ 3 1 + n ≤ 200) (hf : 0 ≤ f ∧ f + n ≤ 2400) : pe_M m_T_insert [pe_r 3, pe_i p, pe_r 10, pe_i f, pe_i n] σ (pe_qv (fun σ' => pe_B σ' ∧ (∀ b, b ∉ [3, 4] → σ' b = σ b) ∧ σ' 3 1 = σ 3 1 + n)) := by
  refine pe_in0 (lv := [some (pe_r 3), some (pe_i p), some (pe_r 10), some (pe_i f), some (pe_i n)]) ?_
  have hB0 := hB
  refine pe_aload_n d_T_insert_0 rfl ?_
  refine pe_getr f_T_9 d_T_insert_1 rfl rfl ?_
  refine pe_iload_n d_T_insert_4 rfl ?_
  refine pe_aload_n d_T_insert_5 rfl ?_
  refine pe_getr f_T_9 d_T_insert_6 rfl rfl ?_
  refine pe_iload_n d_T_insert_9 rfl ?_
  refine pe_iload d_T_insert_10 rfl ?_
  refine pe_iadd d_T_insert_12 ?_
  refine pe_aload_n d_T_insert_13 rfl ?_
  refine pe_geti f_T_15 d_T_insert_14 rfl rfl 1 rfl ?_
  refine pe_iload_n d_T_insert_17 rfl ?_
  refine pe_isub d_T_insert_18 ?_
  refine pe_acopyT c_T_19 d_T_insert_19 rfl rfl (by omega) (by omega) (by omega) (by omega) (by omega) hB (fun σ19 hB e19 f19 => ?_)
  have o19 := f19
  try have u19_0 : σ19 3 1 = σ 3 1 := by first | exact o19 1 (by decide) | exact congrFun (f19 3 (by decide)) 1
  refine pe_aload_n d_T_insert_22 rfl ?_
  refine pe_iload_n d_T_insert_23 rfl ?_
  refine pe_aload_n d_T_insert_24 rfl ?_
  refine pe_getr f_T_9 d_T_insert_25 rfl rfl ?_
  refine pe_iload_n d_T_insert_28 rfl ?_
  refine pe_iload d_T_insert_29 rfl ?_
  refine pe_acopyT c_T_19 d_T_insert_31 rfl rfl (by omega) (by omega) (by omega) (by omega) (by omega) hB (fun σ31 hB e31 f31 => ?_)
  have o31 := f31
  try have u31_0 : σ31 3 1 = σ19 3 1 := by first | exact o31 1 (by decide) | exact congrFun (f31 3 (by decide)) 1
  refine pe_aload_n d_T_insert_34 rfl ?_
  refine pe_dup d_T_insert_35 ?_
  refine pe_geti f_T_15 d_T_insert_36 rfl rfl 1 rfl ?_
  refine pe_iload d_T_insert_39 rfl ?_
  refine pe_iadd d_T_insert_41 ?_
  refine pe_putiT f_T_15 g_3_1 d_T_insert_42 rfl rfl 1 rfl hB (by first | exact hB _ _ | exact hB0 _ _ | exact hBt _ _ | exact ⟨by omega, by omega⟩) (fun σ42 hB e42 o42 f42 => ?_)
  try have u42_0 : σ42 3 1 = σ31 3 1 := by first | exact o42 1 (by decide) | exact congrFun (f42 3 (by decide)) 1
  refine pe_rv d_T_insert_45 ?_
  exact ⟨hB, (fun b hb => (f42 b (by simp at hb ⊢; try omega)).trans ((f31 b (by simp at hb ⊢; try omega)).trans ((f19 b (by simp at hb ⊢; try omega)).trans (rfl)))), by omega⟩
theorem t_T_remove {σ : pe_H} {p n : Int} (hB : pe_B σ) (hp : 0 ≤ p ∧ 0 ≤ n ∧ p + n ≤ σ 3 1) (hl : σ 3 1 ≤ 200) : pe_M m_T_remove [pe_r 3, pe_i p, pe_i n] σ (pe_qv (fun σ' => pe_B σ' ∧ (∀ b, b ∉ [3, 4] → σ' b = σ b) ∧ σ' 3 1 = σ 3 1 - n)) := by
  refine pe_in0 (lv := [some (pe_r 3), some (pe_i p), some (pe_i n)]) ?_
  have hB0 := hB
  refine pe_aload_n d_T_remove_0 rfl ?_
  refine pe_getr f_T_9 d_T_remove_1 rfl rfl ?_
  refine pe_iload_n d_T_remove_4 rfl ?_
  refine pe_iload_n d_T_remove_5 rfl ?_
  refine pe_iadd d_T_remove_6 ?_
  refine pe_aload_n d_T_remove_7 rfl ?_
  refine pe_getr f_T_9 d_T_remove_8 rfl rfl ?_
  refine pe_iload_n d_T_remove_11 rfl ?_
  refine pe_aload_n d_T_remove_12 rfl ?_
  refine pe_geti f_T_15 d_T_remove_13 rfl rfl 1 rfl ?_
  refine pe_iload_n d_T_remove_16 rfl ?_
  refine pe_isub d_T_remove_17 ?_
  refine pe_iload_n d_T_remove_18 rfl ?_
  refine pe_isub d_T_remove_19 ?_
  refine pe_acopyT c_T_19 d_T_remove_20 rfl rfl (by omega) (by omega) (by omega) (by omega) (by omega) hB (fun σ20 hB e20 f20 => ?_)
  have o20 := f20
  try have u20_0 : σ20 3 1 = σ 3 1 := by first | exact o20 1 (by decide) | exact congrFun (f20 3 (by decide)) 1
  refine pe_aload_n d_T_remove_23 rfl ?_
  refine pe_dup d_T_remove_24 ?_
  refine pe_geti f_T_15 d_T_remove_25 rfl rfl 1 rfl ?_
  refine pe_iload_n d_T_remove_28 rfl ?_
  refine pe_isub d_T_remove_29 ?_
  refine pe_putiT f_T_15 g_3_1 d_T_remove_30 rfl rfl 1 rfl hB (by first | exact hB _ _ | exact hB0 _ _ | exact hBt _ _ | exact ⟨by omega, by omega⟩) (fun σ30 hB e30 o30 f30 => ?_)
  try have u30_0 : σ30 3 1 = σ20 3 1 := by first | exact o30 1 (by decide) | exact congrFun (f30 3 (by decide)) 1
  refine pe_rv d_T_remove_33 ?_
  exact ⟨hB, (fun b hb => (f30 b (by simp at hb ⊢; try omega)).trans ((f20 b (by simp at hb ⊢; try omega)).trans (rfl))), by omega⟩
theorem t_T_copyTo_15 {σ : pe_H} {t p n : Int} (hB : pe_B σ) (hp : 0 ≤ p ∧ 0 ≤ n ∧ p + n ≤ σ 3 1) (hl : σ 3 1 ≤ 200) (ht : 0 ≤ t ∧ t + n ≤ 200) : pe_M m_T_copyTo [pe_r 3, pe_r 15, pe_i t, pe_i p, pe_i n] σ (pe_qv (fun σ' => pe_B σ' ∧ ∀ b, b ∉ [15] → σ' b = σ b)) := by
  refine pe_in0 (lv := [some (pe_r 3), some (pe_r 15), some (pe_i t), some (pe_i p), some (pe_i n)]) ?_
  have hB0 := hB
  refine pe_aload_n d_T_copyTo_0 rfl ?_
  refine pe_getr f_T_9 d_T_copyTo_1 rfl rfl ?_
  refine pe_iload_n d_T_copyTo_4 rfl ?_
  refine pe_aload_n d_T_copyTo_5 rfl ?_
  refine pe_iload_n d_T_copyTo_6 rfl ?_
  refine pe_iload d_T_copyTo_7 rfl ?_
  refine pe_acopyT c_T_19 d_T_copyTo_9 rfl rfl (by omega) (by omega) (by omega) (by omega) (by omega) hB (fun σ9 hB e9 f9 => ?_)
  have o9 := f9
  refine pe_rv d_T_copyTo_12 ?_
  exact ⟨hB, (fun b hb => (f9 b (by simp at hb ⊢; try omega)).trans (rfl))⟩
theorem t_T_copyTo_10 {σ : pe_H} {t p n : Int} (hB : pe_B σ) (hp : 0 ≤ p ∧ 0 ≤ n ∧ p + n ≤ σ 3 1) (hl : σ 3 1 ≤ 200) (ht : 0 ≤ t ∧ t + n ≤ 2400) : pe_M m_T_copyTo [pe_r 3, pe_r 10, pe_i t, pe_i p, pe_i n] σ (pe_qv (fun σ' => pe_B σ' ∧ ∀ b, b ∉ [10] → σ' b = σ b)) := by
  refine pe_in0 (lv := [some (pe_r 3), some (pe_r 10), some (pe_i t), some (pe_i p), some (pe_i n)]) ?_
  have hB0 := hB
  refine pe_aload_n d_T_copyTo_0 rfl ?_
  refine pe_getr f_T_9 d_T_copyTo_1 rfl rfl ?_
  refine pe_iload_n d_T_copyTo_4 rfl ?_
  refine pe_aload_n d_T_copyTo_5 rfl ?_
  refine pe_iload_n d_T_copyTo_6 rfl ?_
  refine pe_iload d_T_copyTo_7 rfl ?_
  refine pe_acopyT c_T_19 d_T_copyTo_9 rfl rfl (by omega) (by omega) (by omega) (by omega) (by omega) hB (fun σ9 hB e9 f9 => ?_)
  have o9 := f9
  refine pe_rv d_T_copyTo_12 ?_
  exact ⟨hB, (fun b hb => (f9 b (by simp at hb ⊢; try omega)).trans (rfl))⟩
