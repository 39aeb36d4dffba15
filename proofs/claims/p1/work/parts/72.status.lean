/-! p1: the status row, and the screen of an empty text -/
theorem pe_a256 : ∀ k : Fin 256, Int32.ofInt ((k : Nat) : Int) &&& Int32.ofInt 255 = Int32.ofInt ((k : Nat) : Int) := by decide +kernel
theorem pe_a255 {a : Int} (h : 0 ≤ a ∧ a ≤ 255) : Int32.ofInt a &&& Int32.ofInt 255 = Int32.ofInt a := by
  have q := pe_a256 ⟨a.toNat, by omega⟩
  have e : ((a.toNat : Nat) : Int) = a := by omega
  dsimp only at q
  rw [e] at q
  exact q
theorem pe_bnd {f g : Int → Int} {n : Int} (h : ∀ j, 0 ≤ j → j < n → 32 ≤ f j ∧ f j ≤ 126) (e : 32 ≤ g n ∧ g n ≤ 126) (o : ∀ j, j ≠ n → g j = f j) : ∀ j, 0 ≤ j → j < n + 1 → 32 ≤ g j ∧ g j ≤ 126 := by
  intro j h1 h2
  by_cases q : j = n
  · rw [q]; exact e
  · rw [o j q]; exact h j h1 (by omega)
theorem y_I_stringSize {σ : pe_H} {v : Int} (hx : 0 ≤ v ∧ v ≤ 9) : pe_M m_I_stringSize [pe_i v] σ (pe_qp σ (fun z => z = 1)) := by
  refine pe_in0 (lv := [some (pe_i v), none, none, none]) ?_
  refine pe_iconst d_I_stringSize_0 ?_
  refine pe_istore_n d_I_stringSize_1 ?_
  refine pe_iload_n d_I_stringSize_2 rfl ?_
  refine pe_if_lt (t := 11) d_I_stringSize_3 (by first | exact hB _ _ | exact hB0 _ _ | exact hBt _ _ | exact ⟨by omega, by omega⟩) (fun h3 => ?_) (fun h3 => ?_)
  · skip
    refine pe_bipush d_I_stringSize_11 ?_
    refine pe_istore_n d_I_stringSize_13 ?_
    refine pe_iconst d_I_stringSize_14 ?_
    refine pe_istore_n d_I_stringSize_15 ?_
    refine pe_iload_n d_I_stringSize_16 rfl ?_
    refine pe_bipush d_I_stringSize_17 ?_
    refine pe_icmp_ge (t := 42) d_I_stringSize_19 (by first | exact hB _ _ | exact hB0 _ _ | exact hBt _ _ | exact ⟨by omega, by omega⟩) (by first | exact hB _ _ | exact hB0 _ _ | exact hBt _ _ | exact ⟨by omega, by omega⟩) (fun h19 => ?_) (fun h19 => ?_)
    · skip
      exfalso; omega
    · skip
      refine pe_iload_n d_I_stringSize_22 rfl ?_
      refine pe_iload_n d_I_stringSize_23 rfl ?_
      refine pe_icmp_le (t := 31) d_I_stringSize_24 (by first | exact hB _ _ | exact hB0 _ _ | exact hBt _ _ | exact ⟨by omega, by omega⟩) (by first | exact hB _ _ | exact hB0 _ _ | exact hBt _ _ | exact ⟨by omega, by omega⟩) (fun h24 => ?_) (fun h24 => ?_)
      · skip
        exfalso; omega
      · skip
        refine pe_iload_n d_I_stringSize_27 rfl ?_
        refine pe_iload_n d_I_stringSize_28 rfl ?_
        refine pe_iadd d_I_stringSize_29 ?_
        refine pe_ri d_I_stringSize_30 ?_
        exact ⟨rfl, by omega⟩
  · skip
    refine pe_iconst d_I_stringSize_6 ?_
    refine pe_istore_n d_I_stringSize_7 ?_
    refine pe_iload_n d_I_stringSize_8 rfl ?_
    refine pe_ineg d_I_stringSize_9 ?_
    refine pe_istore_n d_I_stringSize_10 ?_
    refine pe_bipush d_I_stringSize_11 ?_
    refine pe_istore_n d_I_stringSize_13 ?_
    refine pe_iconst d_I_stringSize_14 ?_
    refine pe_istore_n d_I_stringSize_15 ?_
    refine pe_iload_n d_I_stringSize_16 rfl ?_
    refine pe_bipush d_I_stringSize_17 ?_
    refine pe_icmp_ge (t := 42) d_I_stringSize_19 (by first | exact hB _ _ | exact hB0 _ _ | exact hBt _ _ | exact ⟨by omega, by omega⟩) (by first | exact hB _ _ | exact hB0 _ _ | exact hBt _ _ | exact ⟨by omega, by omega⟩) (fun h19 => ?_) (fun h19 => ?_)
    · skip
      exfalso; omega
    · skip
      refine pe_iload_n d_I_stringSize_22 rfl ?_
      refine pe_iload_n d_I_stringSize_23 rfl ?_
      refine pe_icmp_le (t := 31) d_I_stringSize_24 (by first | exact hB _ _ | exact hB0 _ _ | exact hBt _ _ | exact ⟨by omega, by omega⟩) (by first | exact hB _ _ | exact hB0 _ _ | exact hBt _ _ | exact ⟨by omega, by omega⟩) (fun h24 => ?_) (fun h24 => ?_)
      · skip
        exfalso; omega
      · skip
        refine pe_iload_n d_I_stringSize_27 rfl ?_
        refine pe_iload_n d_I_stringSize_28 rfl ?_
        refine pe_iadd d_I_stringSize_29 ?_
        refine pe_ri d_I_stringSize_30 ?_
        exact ⟨rfl, by omega⟩
theorem y_I_getChars {σ : pe_H} {v p : Int} (hB : pe_B σ) (hx : 0 ≤ v ∧ v ≤ 9) (hp : 1 ≤ p ∧ p ≤ 16) : pe_M m_I_getChars [pe_i v, pe_i p, pe_r 22] σ (pe_qi (fun _ σ' => pe_B σ' ∧ (∀ b, b ∉ [22] → σ' b = σ b) ∧ (48 ≤ σ' 22 (p + -1) ∧ σ' 22 (p + -1) ≤ 57) ∧ ∀ j, j ≠ p + -1 → σ' 22 j = σ 22 j)) := by
  refine pe_in0 (lv := [some (pe_i v), some (pe_i p), some (pe_r 22), none, none, none, none]) ?_
  have hB0 := hB
  refine pe_iload_n d_I_getChars_0 rfl ?_
  refine pe_istore d_I_getChars_1 ?_
  refine pe_iload_n d_I_getChars_3 rfl ?_
  refine pe_if_ge (t := 11) d_I_getChars_4 (by first | exact hB _ _ | exact hB0 _ _ | exact hBt _ _ | exact ⟨by omega, by omega⟩) (fun h4 => ?_) (fun h4 => ?_)
  · skip
    refine pe_iconst d_I_getChars_11 ?_
    refine pe_istore d_I_getChars_12 ?_
    refine pe_iload d_I_getChars_14 rfl ?_
    refine pe_if_ne (t := 22) d_I_getChars_16 (by first | exact hB _ _ | exact hB0 _ _ | exact hBt _ _ | exact ⟨by omega, by omega⟩) (fun h16 => ?_) (fun h16 => ?_)
    · skip
      refine pe_iload_n d_I_getChars_22 rfl ?_
      refine pe_bipush d_I_getChars_23 ?_
      refine pe_icmp_gt (t := 72) d_I_getChars_25 (by first | exact hB _ _ | exact hB0 _ _ | exact hBt _ _ | exact ⟨by omega, by omega⟩) (by first | exact hB _ _ | exact hB0 _ _ | exact hBt _ _ | exact ⟨by omega, by omega⟩) (fun h25 => ?_) (fun h25 => ?_)
      · skip
        refine pe_aload_n d_I_getChars_72 rfl ?_
        refine pe_iinc d_I_getChars_73 rfl ?_
        refine pe_iload d_I_getChars_76 rfl ?_
        refine pe_dget (q := 47) (Or.inl ⟨rfl, rfl⟩) d_I_getChars_78 w_I_83 ?_
        refine pe_iload_n d_I_getChars_81 rfl ?_
        refine pe_ineg d_I_getChars_82 ?_
        refine pe_dald (Or.inl rfl) (by omega) (by omega) d_I_getChars_83 (fun v83 hv83 => ?_)
        refine pe_bastT d_I_getChars_84 rfl (by omega) (by omega) (by omega) hB (fun σ84 hB e84 o84 f84 => ?_)
        refine pe_iload_n d_I_getChars_85 rfl ?_
        refine pe_bipush d_I_getChars_86 ?_
        refine pe_icmp_ge (t := 104) d_I_getChars_88 (by first | exact hB _ _ | exact hB0 _ _ | exact hBt _ _ | exact ⟨by omega, by omega⟩) (by first | exact hB _ _ | exact hB0 _ _ | exact hBt _ _ | exact ⟨by omega, by omega⟩) (fun h88 => ?_) (fun h88 => ?_)
        · skip
          refine pe_iload d_I_getChars_104 rfl ?_
          refine pe_if_eq (t := 118) d_I_getChars_106 (by first | exact hB _ _ | exact hB0 _ _ | exact hBt _ _ | exact ⟨by omega, by omega⟩) (fun h106 => ?_) (fun h106 => ?_)
          · skip
            refine pe_iload d_I_getChars_118 rfl ?_
            refine pe_ri d_I_getChars_120 ?_
            first | (exfalso; omega) | exact ⟨hB, (fun b hb => (f84 b (by simp at hb ⊢; try omega)).trans (rfl)), by (try dsimp only); rw [e84]; omega, o84⟩
          · skip
            exfalso; omega
        · skip
          exfalso; omega
      · skip
        exfalso; omega
    · skip
      refine pe_iload_n d_I_getChars_19 rfl ?_
      refine pe_ineg d_I_getChars_20 ?_
      refine pe_istore_n d_I_getChars_21 ?_
      refine pe_iload_n d_I_getChars_22 rfl ?_
      refine pe_bipush d_I_getChars_23 ?_
      refine pe_icmp_gt (t := 72) d_I_getChars_25 (by first | exact hB _ _ | exact hB0 _ _ | exact hBt _ _ | exact ⟨by omega, by omega⟩) (by first | exact hB _ _ | exact hB0 _ _ | exact hBt _ _ | exact ⟨by omega, by omega⟩) (fun h25 => ?_) (fun h25 => ?_)
      · skip
        refine pe_aload_n d_I_getChars_72 rfl ?_
        refine pe_iinc d_I_getChars_73 rfl ?_
        refine pe_iload d_I_getChars_76 rfl ?_
        refine pe_dget (q := 47) (Or.inl ⟨rfl, rfl⟩) d_I_getChars_78 w_I_83 ?_
        refine pe_iload_n d_I_getChars_81 rfl ?_
        refine pe_ineg d_I_getChars_82 ?_
        refine pe_dald (Or.inl rfl) (by omega) (by omega) d_I_getChars_83 (fun v83 hv83 => ?_)
        refine pe_bastT d_I_getChars_84 rfl (by omega) (by omega) (by omega) hB (fun σ84 hB e84 o84 f84 => ?_)
        refine pe_iload_n d_I_getChars_85 rfl ?_
        refine pe_bipush d_I_getChars_86 ?_
        refine pe_icmp_ge (t := 104) d_I_getChars_88 (by first | exact hB _ _ | exact hB0 _ _ | exact hBt _ _ | exact ⟨by omega, by omega⟩) (by first | exact hB _ _ | exact hB0 _ _ | exact hBt _ _ | exact ⟨by omega, by omega⟩) (fun h88 => ?_) (fun h88 => ?_)
        · skip
          refine pe_iload d_I_getChars_104 rfl ?_
          refine pe_if_eq (t := 118) d_I_getChars_106 (by first | exact hB _ _ | exact hB0 _ _ | exact hBt _ _ | exact ⟨by omega, by omega⟩) (fun h106 => ?_) (fun h106 => ?_)
          · skip
            refine pe_iload d_I_getChars_118 rfl ?_
            refine pe_ri d_I_getChars_120 ?_
            first | (exfalso; omega) | exact ⟨hB, (fun b hb => (f84 b (by simp at hb ⊢; try omega)).trans (rfl)), by (try dsimp only); rw [e84]; omega, o84⟩
          · skip
            exfalso; omega
        · skip
          exfalso; omega
      · skip
        exfalso; omega
  · skip
    refine pe_iconst d_I_getChars_7 ?_
    refine pe_goto (t := 12) d_I_getChars_8 ?_
    refine pe_istore d_I_getChars_12 ?_
    refine pe_iload d_I_getChars_14 rfl ?_
    refine pe_if_ne (t := 22) d_I_getChars_16 (by first | exact hB _ _ | exact hB0 _ _ | exact hBt _ _ | exact ⟨by omega, by omega⟩) (fun h16 => ?_) (fun h16 => ?_)
    · skip
      refine pe_iload_n d_I_getChars_22 rfl ?_
      refine pe_bipush d_I_getChars_23 ?_
      refine pe_icmp_gt (t := 72) d_I_getChars_25 (by first | exact hB _ _ | exact hB0 _ _ | exact hBt _ _ | exact ⟨by omega, by omega⟩) (by first | exact hB _ _ | exact hB0 _ _ | exact hBt _ _ | exact ⟨by omega, by omega⟩) (fun h25 => ?_) (fun h25 => ?_)
      · skip
        refine pe_aload_n d_I_getChars_72 rfl ?_
        refine pe_iinc d_I_getChars_73 rfl ?_
        refine pe_iload d_I_getChars_76 rfl ?_
        refine pe_dget (q := 47) (Or.inl ⟨rfl, rfl⟩) d_I_getChars_78 w_I_83 ?_
        refine pe_iload_n d_I_getChars_81 rfl ?_
        refine pe_ineg d_I_getChars_82 ?_
        refine pe_dald (Or.inl rfl) (by omega) (by omega) d_I_getChars_83 (fun v83 hv83 => ?_)
        refine pe_bastT d_I_getChars_84 rfl (by omega) (by omega) (by omega) hB (fun σ84 hB e84 o84 f84 => ?_)
        refine pe_iload_n d_I_getChars_85 rfl ?_
        refine pe_bipush d_I_getChars_86 ?_
        refine pe_icmp_ge (t := 104) d_I_getChars_88 (by first | exact hB _ _ | exact hB0 _ _ | exact hBt _ _ | exact ⟨by omega, by omega⟩) (by first | exact hB _ _ | exact hB0 _ _ | exact hBt _ _ | exact ⟨by omega, by omega⟩) (fun h88 => ?_) (fun h88 => ?_)
        · skip
          refine pe_iload d_I_getChars_104 rfl ?_
          refine pe_if_eq (t := 118) d_I_getChars_106 (by first | exact hB _ _ | exact hB0 _ _ | exact hBt _ _ | exact ⟨by omega, by omega⟩) (fun h106 => ?_) (fun h106 => ?_)
          · skip
            refine pe_iload d_I_getChars_118 rfl ?_
            refine pe_ri d_I_getChars_120 ?_
            first | (exfalso; omega) | exact ⟨hB, (fun b hb => (f84 b (by simp at hb ⊢; try omega)).trans (rfl)), by (try dsimp only); rw [e84]; omega, o84⟩
          · skip
            exfalso; omega
        · skip
          exfalso; omega
      · skip
        exfalso; omega
    · skip
      refine pe_iload_n d_I_getChars_19 rfl ?_
      refine pe_ineg d_I_getChars_20 ?_
      refine pe_istore_n d_I_getChars_21 ?_
      refine pe_iload_n d_I_getChars_22 rfl ?_
      refine pe_bipush d_I_getChars_23 ?_
      refine pe_icmp_gt (t := 72) d_I_getChars_25 (by first | exact hB _ _ | exact hB0 _ _ | exact hBt _ _ | exact ⟨by omega, by omega⟩) (by first | exact hB _ _ | exact hB0 _ _ | exact hBt _ _ | exact ⟨by omega, by omega⟩) (fun h25 => ?_) (fun h25 => ?_)
      · skip
        refine pe_aload_n d_I_getChars_72 rfl ?_
        refine pe_iinc d_I_getChars_73 rfl ?_
        refine pe_iload d_I_getChars_76 rfl ?_
        refine pe_dget (q := 47) (Or.inl ⟨rfl, rfl⟩) d_I_getChars_78 w_I_83 ?_
        refine pe_iload_n d_I_getChars_81 rfl ?_
        refine pe_ineg d_I_getChars_82 ?_
        refine pe_dald (Or.inl rfl) (by omega) (by omega) d_I_getChars_83 (fun v83 hv83 => ?_)
        refine pe_bastT d_I_getChars_84 rfl (by omega) (by omega) (by omega) hB (fun σ84 hB e84 o84 f84 => ?_)
        refine pe_iload_n d_I_getChars_85 rfl ?_
        refine pe_bipush d_I_getChars_86 ?_
        refine pe_icmp_ge (t := 104) d_I_getChars_88 (by first | exact hB _ _ | exact hB0 _ _ | exact hBt _ _ | exact ⟨by omega, by omega⟩) (by first | exact hB _ _ | exact hB0 _ _ | exact hBt _ _ | exact ⟨by omega, by omega⟩) (fun h88 => ?_) (fun h88 => ?_)
        · skip
          refine pe_iload d_I_getChars_104 rfl ?_
          refine pe_if_eq (t := 118) d_I_getChars_106 (by first | exact hB _ _ | exact hB0 _ _ | exact hBt _ _ | exact ⟨by omega, by omega⟩) (fun h106 => ?_) (fun h106 => ?_)
          · skip
            refine pe_iload d_I_getChars_118 rfl ?_
            refine pe_ri d_I_getChars_120 ?_
            first | (exfalso; omega) | exact ⟨hB, (fun b hb => (f84 b (by simp at hb ⊢; try omega)).trans (rfl)), by (try dsimp only); rw [e84]; omega, o84⟩
          · skip
            exfalso; omega
        · skip
          exfalso; omega
      · skip
        exfalso; omega
theorem y_AB_append {σ : pe_H} {v : Int} (hB : pe_B σ) (hs : σ 21 1 = 0 ∧ 0 ≤ σ 21 3 ∧ σ 21 3 ≤ 12) (hn : ∀ j, 0 ≤ j → j < σ 21 3 → 32 ≤ σ 22 j ∧ σ 22 j ≤ 126) (hx : 0 ≤ v ∧ v ≤ 9) : pe_M m_AB_append [pe_r 21, pe_i v] σ (pe_qr (fun σ' => pe_B σ' ∧ (∀ b, b ∉ [21, 22] → σ' b = σ b) ∧ (σ' 21 1 = 0 ∧ σ' 21 3 = σ 21 3 + 1) ∧ ∀ j, 0 ≤ j → j < σ' 21 3 → 32 ≤ σ' 22 j ∧ σ' 22 j ≤ 126)) := by
  refine pe_in0 (lv := [some (pe_r 21), some (pe_i v), none, none]) ?_
  have hB0 := hB
  refine pe_aload_n d_AB_append_0 rfl ?_
  refine pe_geti f_AB_79 d_AB_append_1 rfl rfl 3 rfl ?_
  refine pe_istore_n d_AB_append_4 ?_
  refine pe_iload_n d_AB_append_5 rfl ?_
  refine pe_iload_n d_AB_append_6 rfl ?_
  refine pe_s1p d_AB_append_7 c_AB_245 z_I_stringSize (y_I_stringSize (by omega)) (fun z7 hz7 => ?_)
  refine pe_iadd d_AB_append_10 ?_
  refine pe_istore_n d_AB_append_11 ?_
  refine pe_aload_n d_AB_append_12 rfl ?_
  refine pe_iload_n d_AB_append_13 rfl ?_
  refine pe_un1v d_AB_append_14 c_AB_100 k_AB_ensureCapacityInternal rfl rfl (t_AB_ensureCapacityInternal (by omega) (by omega)) (fun σ14 hz14 => ?_)
  rw [hz14]
  refine pe_aload_n d_AB_append_17 rfl ?_
  refine pe_un0p d_AB_append_18 c_AB_83 k_AB_isLatin1 rfl rfl (t_AB_isLatin1 (by omega)) (fun z18 hz18 => ?_)
  refine pe_if_eq (t := 37) d_AB_append_21 (by first | exact hB _ _ | exact hB0 _ _ | exact hBt _ _ | exact ⟨by omega, by omega⟩) (fun h21 => ?_) (fun h21 => ?_)
  · skip
    exfalso; omega
  · skip
    refine pe_iload_n d_AB_append_24 rfl ?_
    refine pe_iload_n d_AB_append_25 rfl ?_
    refine pe_aload_n d_AB_append_26 rfl ?_
    refine pe_getr f_AB_15 d_AB_append_27 rfl rfl ?_
    refine pe_s3i d_AB_append_30 c_AB_248 z_I_getChars (y_I_getChars hB (by omega) (by omega)) (fun z30 σ30 hz30 => ?_)
    obtain ⟨hB, f30, x30⟩ := hz30
    try have u30_0 : σ30 21 1 = σ 21 1 := by first | exact o30 1 (by decide) | exact congrFun (f30 21 (by decide)) 1
    try have u30_1 : σ30 21 3 = σ 21 3 := by first | exact o30 3 (by decide) | exact congrFun (f30 21 (by decide)) 3
    have ei : σ 21 3 + z7 + -1 = σ 21 3 := by omega
    rw [ei] at x30
    refine pe_pop d_AB_append_33 ?_
    refine pe_goto (t := 48) d_AB_append_34 ?_
    refine pe_aload_n d_AB_append_48 rfl ?_
    refine pe_iload_n d_AB_append_49 rfl ?_
    refine pe_putiT f_AB_79 g_8_3 d_AB_append_50 rfl rfl 3 rfl hB (by first | exact hB _ _ | exact hB0 _ _ | exact hBt _ _ | exact ⟨by omega, by omega⟩) (fun σ50 hB e50 o50 f50 => ?_)
    try have u50_0 : σ50 21 1 = σ30 21 1 := by first | exact o50 1 (by decide) | exact congrFun (f50 21 (by decide)) 1
    try have u50_1 : σ50 21 3 = σ30 21 3 := by first | exact o50 3 (by decide) | exact congrFun (f50 21 (by decide)) 3
    refine pe_aload_n d_AB_append_53 rfl ?_
    refine pe_reta d_AB_append_54 rfl ?_
    exact ⟨rfl, hB, (fun b hb => (f50 b (by simp at hb ⊢; try omega)).trans ((f30 b (by simp at hb ⊢; try omega)).trans (rfl))), by omega, by
      have q := pe_bnd hn (by omega) x30.2
      intro j h1 h2
      rw [f50 22 (by decide)]
      exact q j h1 (by omega)⟩
theorem y_B_append {σ : pe_H} {v : Int} (hB : pe_B σ) (hs : σ 21 1 = 0 ∧ 0 ≤ σ 21 3 ∧ σ 21 3 ≤ 12) (hn : ∀ j, 0 ≤ j → j < σ 21 3 → 32 ≤ σ 22 j ∧ σ 22 j ≤ 126) (hx : 0 ≤ v ∧ v ≤ 9) : pe_M m_B_append [pe_r 21, pe_i v] σ (pe_qr (fun σ' => pe_B σ' ∧ (∀ b, b ∉ [21, 22] → σ' b = σ b) ∧ (σ' 21 1 = 0 ∧ σ' 21 3 = σ 21 3 + 1) ∧ ∀ j, 0 ≤ j → j < σ' 21 3 → 32 ≤ σ' 22 j ∧ σ' 22 j ≤ 126)) := by
  refine pe_in0 (lv := [some (pe_r 21), some (pe_i v)]) ?_
  have hB0 := hB
  refine pe_aload_n d_B_append_0 rfl ?_
  refine pe_iload_n d_B_append_1 rfl ?_
  refine pe_su1r d_B_append_2 c_B_53 k_AB_append rfl rfl (y_AB_append hB (by omega) hn (by omega)) (fun σ2 hz2 => ?_)
  obtain ⟨hB, f2, x2⟩ := hz2
  try have u2_0 : σ2 21 1 = σ 21 1 := by first | exact o2 1 (by decide) | exact congrFun (f2 21 (by decide)) 1
  try have u2_1 : σ2 21 3 = σ 21 3 := by first | exact o2 3 (by decide) | exact congrFun (f2 21 (by decide)) 3
  refine pe_pop d_B_append_5 ?_
  refine pe_aload_n d_B_append_6 rfl ?_
  refine pe_reta d_B_append_7 rfl ?_
  exact ⟨rfl, hB, (fun b hb => (f2 b (by simp at hb ⊢; try omega)).trans (rfl)), x2⟩
theorem y_AB_append2 {σ : pe_H} {c : Int} (hB : pe_B σ) (hs : σ 21 1 = 0 ∧ 0 ≤ σ 21 3 ∧ σ 21 3 ≤ 12) (hn : ∀ j, 0 ≤ j → j < σ 21 3 → 32 ≤ σ 22 j ∧ σ 22 j ≤ 126) (hc : 32 ≤ c ∧ c ≤ 126) : pe_M m_AB_append2 [pe_r 21, pe_i c] σ (pe_qr (fun σ' => pe_B σ' ∧ (∀ b, b ∉ [21, 22] → σ' b = σ b) ∧ (σ' 21 1 = 0 ∧ σ' 21 3 = σ 21 3 + 1) ∧ ∀ j, 0 ≤ j → j < σ' 21 3 → 32 ≤ σ' 22 j ∧ σ' 22 j ≤ 126)) := by
  refine pe_in0 (lv := [some (pe_r 21), some (pe_i c)]) ?_
  have hB0 := hB
  refine pe_aload_n d_AB_append2_0 rfl ?_
  refine pe_aload_n d_AB_append2_1 rfl ?_
  refine pe_geti f_AB_79 d_AB_append2_2 rfl rfl 3 rfl ?_
  refine pe_iconst d_AB_append2_5 ?_
  refine pe_iadd d_AB_append2_6 ?_
  refine pe_un1v d_AB_append2_7 c_AB_100 k_AB_ensureCapacityInternal rfl rfl (t_AB_ensureCapacityInternal (by omega) (by omega)) (fun σ7 hz7 => ?_)
  rw [hz7]
  refine pe_aload_n d_AB_append2_10 rfl ?_
  refine pe_un0p d_AB_append2_11 c_AB_83 k_AB_isLatin1 rfl rfl (t_AB_isLatin1 (by omega)) (fun z11 hz11 => ?_)
  refine pe_if_eq (t := 45) d_AB_append2_14 (by first | exact hB _ _ | exact hB0 _ _ | exact hBt _ _ | exact ⟨by omega, by omega⟩) (fun h14 => ?_) (fun h14 => ?_)
  · skip
    exfalso; omega
  · skip
    refine pe_iload_n d_AB_append2_17 rfl ?_
    refine pe_s1p d_AB_append2_18 c_AB_191 z_SL_canEncode (t_SL_canEncode (by omega)) (fun z18 hz18 => ?_)
    refine pe_if_eq (t := 45) d_AB_append2_21 (by first | exact hB _ _ | exact hB0 _ _ | exact hBt _ _ | exact ⟨by omega, by omega⟩) (fun h21 => ?_) (fun h21 => ?_)
    · skip
      exfalso; omega
    · skip
      refine pe_aload_n d_AB_append2_24 rfl ?_
      refine pe_getr f_AB_15 d_AB_append2_25 rfl rfl ?_
      refine pe_aload_n d_AB_append2_28 rfl ?_
      refine pe_dup d_AB_append2_29 ?_
      refine pe_geti f_AB_79 d_AB_append2_30 rfl rfl 3 rfl ?_
      refine pe_dup_x1 d_AB_append2_33 ?_
      refine pe_iconst d_AB_append2_34 ?_
      refine pe_iadd d_AB_append2_35 ?_
      refine pe_putiT f_AB_79 g_8_3 d_AB_append2_36 rfl rfl 3 rfl hB (by first | exact hB _ _ | exact hB0 _ _ | exact hBt _ _ | exact ⟨by omega, by omega⟩) (fun σ36 hB e36 o36 f36 => ?_)
      try have u36_0 : σ36 21 1 = σ 21 1 := by first | exact o36 1 (by decide) | exact congrFun (f36 21 (by decide)) 1
      try have u36_1 : σ36 21 3 = σ 21 3 := by first | exact o36 3 (by decide) | exact congrFun (f36 21 (by decide)) 3
      refine pe_iload_n d_AB_append2_39 rfl ?_
      refine pe_i2b (by omega) d_AB_append2_40 ?_
      refine pe_bastT d_AB_append2_41 rfl (by omega) (by omega) (by omega) hB (fun σ41 hB e41 o41 f41 => ?_)
      try have u41_0 : σ41 21 1 = σ36 21 1 := by first | exact o41 1 (by decide) | exact congrFun (f41 21 (by decide)) 1
      try have u41_1 : σ41 21 3 = σ36 21 3 := by first | exact o41 3 (by decide) | exact congrFun (f41 21 (by decide)) 3
      refine pe_goto (t := 75) d_AB_append2_42 ?_
      refine pe_aload_n d_AB_append2_75 rfl ?_
      refine pe_reta d_AB_append2_76 rfl ?_
      exact ⟨rfl, hB, (fun b hb => (f41 b (by simp at hb ⊢; try omega)).trans ((f36 b (by simp at hb ⊢; try omega)).trans (rfl))), by omega, by
        have q := pe_bnd (g := σ41 22) hn (by rw [e41]; exact hc) (fun j hj => (o41 j hj).trans (congrFun (f36 22 (by decide)) j))
        intro j h1 h2
        exact q j h1 (by omega)⟩
theorem y_B_append2 {σ : pe_H} {c : Int} (hB : pe_B σ) (hs : σ 21 1 = 0 ∧ 0 ≤ σ 21 3 ∧ σ 21 3 ≤ 12) (hn : ∀ j, 0 ≤ j → j < σ 21 3 → 32 ≤ σ 22 j ∧ σ 22 j ≤ 126) (hc : 32 ≤ c ∧ c ≤ 126) : pe_M m_B_append2 [pe_r 21, pe_i c] σ (pe_qr (fun σ' => pe_B σ' ∧ (∀ b, b ∉ [21, 22] → σ' b = σ b) ∧ (σ' 21 1 = 0 ∧ σ' 21 3 = σ 21 3 + 1) ∧ ∀ j, 0 ≤ j → j < σ' 21 3 → 32 ≤ σ' 22 j ∧ σ' 22 j ≤ 126)) := by
  refine pe_in0 (lv := [some (pe_r 21), some (pe_i c)]) ?_
  have hB0 := hB
  refine pe_aload_n d_B_append2_0 rfl ?_
  refine pe_iload_n d_B_append2_1 rfl ?_
  refine pe_su1r d_B_append2_2 c_B_50 k_AB_append2 rfl rfl (y_AB_append2 hB (by omega) hn (by omega)) (fun σ2 hz2 => ?_)
  obtain ⟨hB, f2, x2⟩ := hz2
  try have u2_0 : σ2 21 1 = σ 21 1 := by first | exact o2 1 (by decide) | exact congrFun (f2 21 (by decide)) 1
  try have u2_1 : σ2 21 3 = σ 21 3 := by first | exact o2 3 (by decide) | exact congrFun (f2 21 (by decide)) 3
  refine pe_pop d_B_append2_5 ?_
  refine pe_aload_n d_B_append2_6 rfl ?_
  refine pe_reta d_B_append2_7 rfl ?_
  exact ⟨rfl, hB, (fun b hb => (f2 b (by simp at hb ⊢; try omega)).trans (rfl)), x2⟩
theorem y_AB_charAt {σ : pe_H} {i : Int} (hB : pe_B σ) (hs : σ 21 1 = 0 ∧ 0 ≤ i ∧ i < σ 21 3 ∧ σ 21 3 ≤ 16) (hn : 32 ≤ σ 22 i ∧ σ 22 i ≤ 126) : pe_M m_AB_charAt [pe_r 21, pe_i i] σ (pe_qp σ (fun z => 32 ≤ z ∧ z ≤ 126)) := by
  refine pe_in0 (lv := [some (pe_r 21), some (pe_i i), none, none, none]) ?_
  have hB0 := hB
  refine pe_aload_n d_AB_charAt_0 rfl ?_
  refine pe_geti f_AB_22 d_AB_charAt_1 rfl rfl 1 rfl ?_
  refine pe_istore_n d_AB_charAt_4 ?_
  refine pe_aload_n d_AB_charAt_5 rfl ?_
  refine pe_getr f_AB_15 d_AB_charAt_6 rfl rfl ?_
  refine pe_astore_n d_AB_charAt_9 ?_
  refine pe_aload_n d_AB_charAt_10 rfl ?_
  refine pe_geti f_AB_79 d_AB_charAt_11 rfl rfl 3 rfl ?_
  refine pe_aload_n d_AB_charAt_14 rfl ?_
  refine pe_alen (t0 := 2) d_AB_charAt_15 rfl (fun _ => rfl) ?_
  refine pe_iload_n d_AB_charAt_16 rfl ?_
  refine pe_ishr0 hs.1 d_AB_charAt_17 ?_
  refine pe_minT c_AB_138 d_AB_charAt_18 (by first | exact hB _ _ | exact hB0 _ _ | exact hBt _ _ | exact ⟨by omega, by omega⟩) (by first | exact hB _ _ | exact hB0 _ _ | exact hBt _ _ | exact ⟨by omega, by omega⟩) (fun z18 hz18 => ?_)
  refine pe_istore d_AB_charAt_21 ?_
  refine pe_iload_n d_AB_charAt_23 rfl ?_
  refine pe_iload d_AB_charAt_24 rfl ?_
  refine pe_s2v d_AB_charAt_26 c_AB_144 z_ST_checkIndex (t_ST_checkIndex (by omega) (by omega) (by omega)) (fun σ26 hz26 => ?_)
  rw [hz26]
  refine pe_iload_n d_AB_charAt_29 rfl ?_
  refine pe_if_ne (t := 42) d_AB_charAt_30 (by first | exact hB _ _ | exact hB0 _ _ | exact hBt _ _ | exact ⟨by omega, by omega⟩) (fun h30 => ?_) (fun h30 => ?_)
  · skip
    exfalso; omega
  · skip
    refine pe_aload_n d_AB_charAt_33 rfl ?_
    refine pe_iload_n d_AB_charAt_34 rfl ?_
    refine pe_bald d_AB_charAt_35 rfl (by omega) (by omega) ?_
    refine pe_sipush d_AB_charAt_36 ?_
    refine pe_iand d_AB_charAt_39 (pe_a255 ⟨by omega, by omega⟩) ?_
    refine pe_i2c (by omega) d_AB_charAt_40 ?_
    refine pe_rc d_AB_charAt_41 (by omega) ?_
    exact ⟨rfl, hn⟩
theorem y_B_charAt {σ : pe_H} {i : Int} (hB : pe_B σ) (hs : σ 21 1 = 0 ∧ 0 ≤ i ∧ i < σ 21 3 ∧ σ 21 3 ≤ 16) (hn : 32 ≤ σ 22 i ∧ σ 22 i ≤ 126) : pe_M m_B_charAt [pe_r 21, pe_i i] σ (pe_qp σ (fun z => 32 ≤ z ∧ z ≤ 126)) := by
  refine pe_in0 (lv := [some (pe_r 21), some (pe_i i)]) ?_
  have hB0 := hB
  refine pe_aload_n d_B_charAt_0 rfl ?_
  refine pe_iload_n d_B_charAt_1 rfl ?_
  refine pe_su1p d_B_charAt_2 c_B_329 k_AB_charAt rfl rfl (y_AB_charAt hB (by omega) (by omega)) (fun z2 hz2 => ?_)
  refine pe_rc d_B_charAt_5 (by omega) ?_
  exact ⟨rfl, by omega⟩
theorem pe_rowx {f g u w : Int → Int} {a n v : Int} (h : ∀ j, 0 ≤ j → j < n → (32 ≤ f (a * 24 + j) ∧ f (a * 24 + j) ≤ 126) ∧ u (a * 24 + j) = 1) (e : g (a * 24 + n) = v ∧ w (a * 24 + n) = 1) (hv : 32 ≤ v ∧ v ≤ 126) (o : ∀ j, j ≠ a * 24 + n → g j = f j ∧ w j = u j) : ∀ j, 0 ≤ j → j < n + 1 → (32 ≤ g (a * 24 + j) ∧ g (a * 24 + j) ≤ 126) ∧ w (a * 24 + j) = 1 := by
  intro j h1 h2
  by_cases q : j = n
  · rw [q, e.1, e.2]; exact ⟨hv, rfl⟩
  · have := o (a * 24 + j) (by omega)
    rw [this.1, this.2]; exact h j h1 (by omega)
theorem y_S_showStatus {σ : pe_H} (hB : pe_B σ) (hF : σ 3 1 = 0 ∧ σ 2 7 = 0 ∧ σ 2 8 = -1 ∧ σ 5 6 = 0) (hw : 1 ≤ σ 18 2 ∧ σ 18 2 ≤ 24 ∧ 1 ≤ σ 18 3 ∧ σ 18 3 ≤ 8) (hc4 : σ 17 4 = 0) (hs : (σ 21 1 = 0 ∧ 0 ≤ σ 21 3 ∧ σ 21 3 ≤ 16)) : pe_M m_S_showStatus [pe_r 17, pe_r 2] σ (pe_qv (fun σ' => pe_B σ' ∧ (∀ b, b ∉ [19, 20, 21, 22] → σ' b = σ b) ∧ (∀ j, 0 ≤ j → j < σ 18 2 → (32 ≤ σ' 19 ((σ 18 3 - 1) * 24 + j) ∧ σ' 19 ((σ 18 3 - 1) * 24 + j) ≤ 126) ∧ σ' 20 ((σ 18 3 - 1) * 24 + j) = 1) ∧ (∀ j, j < (σ 18 3 - 1) * 24 → σ' 19 j = σ 19 j ∧ σ' 20 j = σ 20 j))) := by
  refine pe_in0 (lv := [some (pe_r 17), some (pe_r 2), none, none]) ?_
  have hB0 := hB
  have J73 : ∀ x : Int × pe_H, (pe_B x.2 ∧ (∀ b, b ∉ [19, 20, 21, 22] → x.2 b = σ b) ∧ (∀ j, 0 ≤ j → j < x.2 21 3 → 32 ≤ x.2 22 j ∧ x.2 22 j ≤ 126) ∧ ((∀ j, 0 ≤ j → j < x.1 → (32 ≤ x.2 19 ((σ 18 3 - 1) * 24 + j) ∧ x.2 19 ((σ 18 3 - 1) * 24 + j) ≤ 126) ∧ x.2 20 ((σ 18 3 - 1) * 24 + j) = 1) ∧ (∀ j, j < (σ 18 3 - 1) * 24 → x.2 19 j = σ 19 j ∧ x.2 20 j = σ 20 j)) ∧ (0 ≤ x.1 ∧ x.1 ≤ 24) ∧ (x.2 21 1 = 0 ∧ 0 ≤ x.2 21 3 ∧ x.2 21 3 ≤ 16)) → pe_G m_S_showStatus 73 [some (pe_r 17), some (pe_r 2), some (pe_i x.1), none] [] x.2 (pe_qv (fun σ' => pe_B σ' ∧ (∀ b, b ∉ [19, 20, 21, 22] → σ' b = σ b) ∧ (∀ j, 0 ≤ j → j < σ 18 2 → (32 ≤ σ' 19 ((σ 18 3 - 1) * 24 + j) ∧ σ' 19 ((σ 18 3 - 1) * 24 + j) ≤ 126) ∧ σ' 20 ((σ 18 3 - 1) * 24 + j) = 1) ∧ (∀ j, j < (σ 18 3 - 1) * 24 → σ' 19 j = σ 19 j ∧ σ' 20 j = σ 20 j))) := by
    refine pe_loop (fun x : Int × pe_H => (200 - x.1).toNat) _ _ ?_
    intro x hI ih
    obtain ⟨c, τ⟩ := x
    dsimp only at hI ⊢
    obtain ⟨hB, hfr, hX⟩ := hI
    have v_18_2 : τ 18 2 = σ 18 2 := congrFun (hfr 18 (by decide)) 2
    have v_18_3 : τ 18 3 = σ 18 3 := congrFun (hfr 18 (by decide)) 3
    obtain ⟨hn, hrow, hX⟩ := hX
    have hBt := hB
    refine pe_iload_n d_S_showStatus_73 rfl ?_
    refine pe_aload_n d_S_showStatus_74 rfl ?_
    refine pe_getr f_S_23 d_S_showStatus_75 rfl rfl ?_
    refine pe_geti f_S_37 d_S_showStatus_78 rfl rfl 2 rfl ?_
    refine pe_icmp_ge (t := 134) d_S_showStatus_81 (by first | exact hB _ _ | exact hB0 _ _ | exact hBt _ _ | exact ⟨by omega, by omega⟩) (by first | exact hB _ _ | exact hB0 _ _ | exact hBt _ _ | exact ⟨by omega, by omega⟩) (fun h81 => ?_) (fun h81 => ?_)
    · skip
      refine pe_rv d_S_showStatus_134 ?_
      exact ⟨hB, (fun b hb => hfr b (by simp at hb ⊢; try omega)), fun j h1 h2 => hrow.1 j h1 (by omega), hrow.2⟩
    · skip
      refine pe_iload_n d_S_showStatus_84 rfl ?_
      refine pe_aload_n d_S_showStatus_85 rfl ?_
      refine pe_getr f_S_12 d_S_showStatus_86 rfl rfl ?_
      refine pe_v0p d_S_showStatus_89 c_S_126 i_B_length s_B_length rfl rfl t_B_length (fun z89 hz89 => ?_)
      refine pe_icmp_ge (t := 106) d_S_showStatus_92 (by first | exact hB _ _ | exact hB0 _ _ | exact hBt _ _ | exact ⟨by omega, by omega⟩) (by first | exact hB _ _ | exact hB0 _ _ | exact hBt _ _ | exact ⟨by omega, by omega⟩) (fun h92 => ?_) (fun h92 => ?_)
      · skip
        refine pe_bipush d_S_showStatus_106 ?_
        refine pe_istore_n d_S_showStatus_108 ?_
        refine pe_aload_n d_S_showStatus_109 rfl ?_
        refine pe_getr f_S_23 d_S_showStatus_110 rfl rfl ?_
        refine pe_aload_n d_S_showStatus_113 rfl ?_
        refine pe_getr f_S_23 d_S_showStatus_114 rfl rfl ?_
        refine pe_geti f_S_40 d_S_showStatus_117 rfl rfl 3 rfl ?_
        refine pe_iconst d_S_showStatus_120 ?_
        refine pe_isub d_S_showStatus_121 ?_
        refine pe_iload_n d_S_showStatus_122 rfl ?_
        refine pe_iload_n d_S_showStatus_123 rfl ?_
        refine pe_iconst d_S_showStatus_124 ?_
        refine pe_v4v d_S_showStatus_125 c_S_97 i_G_put s_G_put rfl rfl (y_G_put_18 hB (by omega) (by omega) (by first | exact hB _ _ | exact hB0 _ _ | exact hBt _ _ | exact ⟨by omega, by omega⟩) (by first | exact hB _ _ | exact hB0 _ _ | exact hBt _ _ | exact ⟨by omega, by omega⟩)) (fun σ125 hz125 => ?_)
        obtain ⟨hB, f125, x125⟩ := hz125
        try have u125_0 : σ125 2 7 = τ 2 7 := by first | exact o125 7 (by decide) | exact congrFun (f125 2 (by decide)) 7
        try have u125_1 : σ125 2 8 = τ 2 8 := by first | exact o125 8 (by decide) | exact congrFun (f125 2 (by decide)) 8
        try have u125_2 : σ125 3 1 = τ 3 1 := by first | exact o125 1 (by decide) | exact congrFun (f125 3 (by decide)) 1
        try have u125_3 : σ125 17 2 = τ 17 2 := by first | exact o125 2 (by decide) | exact congrFun (f125 17 (by decide)) 2
        try have u125_4 : σ125 17 3 = τ 17 3 := by first | exact o125 3 (by decide) | exact congrFun (f125 17 (by decide)) 3
        try have u125_5 : σ125 17 4 = τ 17 4 := by first | exact o125 4 (by decide) | exact congrFun (f125 17 (by decide)) 4
        try have u125_6 : σ125 18 2 = τ 18 2 := by first | exact o125 2 (by decide) | exact congrFun (f125 18 (by decide)) 2
        try have u125_7 : σ125 18 3 = τ 18 3 := by first | exact o125 3 (by decide) | exact congrFun (f125 18 (by decide)) 3
        try have u125_8 : σ125 21 1 = τ 21 1 := by first | exact o125 1 (by decide) | exact congrFun (f125 21 (by decide)) 1
        try have u125_9 : σ125 21 3 = τ 21 3 := by first | exact o125 3 (by decide) | exact congrFun (f125 21 (by decide)) 3
        try have u125_10 : σ125 5 6 = τ 5 6 := by first | exact o125 6 (by decide) | exact congrFun (f125 5 (by decide)) 6
        refine pe_iinc d_S_showStatus_128 rfl ?_
        refine pe_goto (t := 73) d_S_showStatus_131 ?_
        refine pe_drop 3 ?_
        exact ih (_, _) ⟨hB, (fun b hb => (f125 b (by simp at hb ⊢; try omega)).trans (hfr b (by simp at hb ⊢; try omega))), by (try dsimp only); rw [f125 21 (by decide), f125 22 (by decide)]; exact hn, ⟨by (try dsimp only); rw [v_18_3] at x125; exact pe_rowx hrow.1 x125.1 (by omega) x125.2, fun j h1 => by (try dsimp only); rw [v_18_3] at x125; have q := x125.2 j (by omega); (try dsimp only); rw [q.1, q.2]; exact hrow.2 j h1⟩, by (try dsimp only); omega⟩ (by (try dsimp only); omega)
      · skip
        refine pe_aload_n d_S_showStatus_95 rfl ?_
        refine pe_getr f_S_12 d_S_showStatus_96 rfl rfl ?_
        refine pe_iload_n d_S_showStatus_99 rfl ?_
        refine pe_v1p d_S_showStatus_100 c_S_129 i_B_charAt s_B_charAt rfl rfl (y_B_charAt hB (by omega) (hn _ (by omega) (by omega))) (fun z100 hz100 => ?_)
        refine pe_goto (t := 108) d_S_showStatus_103 ?_
        refine pe_istore_n d_S_showStatus_108 ?_
        refine pe_aload_n d_S_showStatus_109 rfl ?_
        refine pe_getr f_S_23 d_S_showStatus_110 rfl rfl ?_
        refine pe_aload_n d_S_showStatus_113 rfl ?_
        refine pe_getr f_S_23 d_S_showStatus_114 rfl rfl ?_
        refine pe_geti f_S_40 d_S_showStatus_117 rfl rfl 3 rfl ?_
        refine pe_iconst d_S_showStatus_120 ?_
        refine pe_isub d_S_showStatus_121 ?_
        refine pe_iload_n d_S_showStatus_122 rfl ?_
        refine pe_iload_n d_S_showStatus_123 rfl ?_
        refine pe_iconst d_S_showStatus_124 ?_
        refine pe_v4v d_S_showStatus_125 c_S_97 i_G_put s_G_put rfl rfl (y_G_put_18 hB (by omega) (by omega) (by first | exact hB _ _ | exact hB0 _ _ | exact hBt _ _ | exact ⟨by omega, by omega⟩) (by first | exact hB _ _ | exact hB0 _ _ | exact hBt _ _ | exact ⟨by omega, by omega⟩)) (fun σ125 hz125 => ?_)
        obtain ⟨hB, f125, x125⟩ := hz125
        try have u125_0 : σ125 2 7 = τ 2 7 := by first | exact o125 7 (by decide) | exact congrFun (f125 2 (by decide)) 7
        try have u125_1 : σ125 2 8 = τ 2 8 := by first | exact o125 8 (by decide) | exact congrFun (f125 2 (by decide)) 8
        try have u125_2 : σ125 3 1 = τ 3 1 := by first | exact o125 1 (by decide) | exact congrFun (f125 3 (by decide)) 1
        try have u125_3 : σ125 17 2 = τ 17 2 := by first | exact o125 2 (by decide) | exact congrFun (f125 17 (by decide)) 2
        try have u125_4 : σ125 17 3 = τ 17 3 := by first | exact o125 3 (by decide) | exact congrFun (f125 17 (by decide)) 3
        try have u125_5 : σ125 17 4 = τ 17 4 := by first | exact o125 4 (by decide) | exact congrFun (f125 17 (by decide)) 4
        try have u125_6 : σ125 18 2 = τ 18 2 := by first | exact o125 2 (by decide) | exact congrFun (f125 18 (by decide)) 2
        try have u125_7 : σ125 18 3 = τ 18 3 := by first | exact o125 3 (by decide) | exact congrFun (f125 18 (by decide)) 3
        try have u125_8 : σ125 21 1 = τ 21 1 := by first | exact o125 1 (by decide) | exact congrFun (f125 21 (by decide)) 1
        try have u125_9 : σ125 21 3 = τ 21 3 := by first | exact o125 3 (by decide) | exact congrFun (f125 21 (by decide)) 3
        try have u125_10 : σ125 5 6 = τ 5 6 := by first | exact o125 6 (by decide) | exact congrFun (f125 5 (by decide)) 6
        refine pe_iinc d_S_showStatus_128 rfl ?_
        refine pe_goto (t := 73) d_S_showStatus_131 ?_
        refine pe_drop 3 ?_
        exact ih (_, _) ⟨hB, (fun b hb => (f125 b (by simp at hb ⊢; try omega)).trans (hfr b (by simp at hb ⊢; try omega))), by (try dsimp only); rw [f125 21 (by decide), f125 22 (by decide)]; exact hn, ⟨by (try dsimp only); rw [v_18_3] at x125; exact pe_rowx hrow.1 x125.1 (by omega) x125.2, fun j h1 => by (try dsimp only); rw [v_18_3] at x125; have q := x125.2 j (by omega); (try dsimp only); rw [q.1, q.2]; exact hrow.2 j h1⟩, by (try dsimp only); omega⟩ (by (try dsimp only); omega)
  refine pe_aload_n d_S_showStatus_0 rfl ?_
  refine pe_getr f_S_12 d_S_showStatus_1 rfl rfl ?_
  refine pe_iconst d_S_showStatus_4 ?_
  refine pe_v1v d_S_showStatus_5 c_S_104 i_B_setLength s_B_setLength rfl rfl (t_B_setLength hB (by omega) (by omega)) (fun σ5 hz5 => ?_)
  obtain ⟨hB, f5, x5⟩ := hz5
  try have u5_0 : σ5 2 7 = σ 2 7 := by first | exact o5 7 (by decide) | exact congrFun (f5 2 (by decide)) 7
  try have u5_1 : σ5 2 8 = σ 2 8 := by first | exact o5 8 (by decide) | exact congrFun (f5 2 (by decide)) 8
  try have u5_2 : σ5 3 1 = σ 3 1 := by first | exact o5 1 (by decide) | exact congrFun (f5 3 (by decide)) 1
  try have u5_3 : σ5 17 2 = σ 17 2 := by first | exact o5 2 (by decide) | exact congrFun (f5 17 (by decide)) 2
  try have u5_4 : σ5 17 3 = σ 17 3 := by first | exact o5 3 (by decide) | exact congrFun (f5 17 (by decide)) 3
  try have u5_5 : σ5 17 4 = σ 17 4 := by first | exact o5 4 (by decide) | exact congrFun (f5 17 (by decide)) 4
  try have u5_6 : σ5 18 2 = σ 18 2 := by first | exact o5 2 (by decide) | exact congrFun (f5 18 (by decide)) 2
  try have u5_7 : σ5 18 3 = σ 18 3 := by first | exact o5 3 (by decide) | exact congrFun (f5 18 (by decide)) 3
  try have u5_8 : σ5 21 1 = σ 21 1 := by first | exact o5 1 (by decide) | exact congrFun (f5 21 (by decide)) 1
  try have u5_9 : σ5 21 3 = σ 21 3 := by first | exact o5 3 (by decide) | exact congrFun (f5 21 (by decide)) 3
  try have u5_10 : σ5 5 6 = σ 5 6 := by first | exact o5 6 (by decide) | exact congrFun (f5 5 (by decide)) 6
  refine pe_aload_n d_S_showStatus_8 rfl ?_
  refine pe_getr f_S_12 d_S_showStatus_9 rfl rfl ?_
  refine pe_aload_n d_S_showStatus_12 rfl ?_
  refine pe_getr f_S_49 d_S_showStatus_13 rfl rfl ?_
  refine pe_aload_n d_S_showStatus_16 rfl ?_
  refine pe_geti f_S_63 d_S_showStatus_17 rfl rfl 7 rfl ?_
  refine pe_v1p d_S_showStatus_20 c_S_107 i_T_lineNumber s_T_lineNumber rfl rfl (t_T_lineNumber hB (by omega) (by omega)) (fun z20 hz20 => ?_)
  refine pe_v1r d_S_showStatus_23 c_S_110 i_B_append s_B_append rfl rfl (y_B_append hB (by omega) (fun j h1 h2 => by omega) (by omega)) (fun σ23 hz23 => ?_)
  obtain ⟨hB, f23, x23⟩ := hz23
  try have u23_0 : σ23 2 7 = σ5 2 7 := by first | exact o23 7 (by decide) | exact congrFun (f23 2 (by decide)) 7
  try have u23_1 : σ23 2 8 = σ5 2 8 := by first | exact o23 8 (by decide) | exact congrFun (f23 2 (by decide)) 8
  try have u23_2 : σ23 3 1 = σ5 3 1 := by first | exact o23 1 (by decide) | exact congrFun (f23 3 (by decide)) 1
  try have u23_3 : σ23 17 2 = σ5 17 2 := by first | exact o23 2 (by decide) | exact congrFun (f23 17 (by decide)) 2
  try have u23_4 : σ23 17 3 = σ5 17 3 := by first | exact o23 3 (by decide) | exact congrFun (f23 17 (by decide)) 3
  try have u23_5 : σ23 17 4 = σ5 17 4 := by first | exact o23 4 (by decide) | exact congrFun (f23 17 (by decide)) 4
  try have u23_6 : σ23 18 2 = σ5 18 2 := by first | exact o23 2 (by decide) | exact congrFun (f23 18 (by decide)) 2
  try have u23_7 : σ23 18 3 = σ5 18 3 := by first | exact o23 3 (by decide) | exact congrFun (f23 18 (by decide)) 3
  try have u23_8 : σ23 21 1 = σ5 21 1 := by first | exact o23 1 (by decide) | exact congrFun (f23 21 (by decide)) 1
  try have u23_9 : σ23 21 3 = σ5 21 3 := by first | exact o23 3 (by decide) | exact congrFun (f23 21 (by decide)) 3
  try have u23_10 : σ23 5 6 = σ5 5 6 := by first | exact o23 6 (by decide) | exact congrFun (f23 5 (by decide)) 6
  refine pe_pop d_S_showStatus_26 ?_
  refine pe_aload_n d_S_showStatus_27 rfl ?_
  refine pe_getr f_S_12 d_S_showStatus_28 rfl rfl ?_
  refine pe_bipush d_S_showStatus_31 ?_
  refine pe_v1r d_S_showStatus_33 c_S_114 i_B_append2 s_B_append2 rfl rfl (y_B_append2 hB (by omega) x23.2 (by omega)) (fun σ33 hz33 => ?_)
  obtain ⟨hB, f33, x33⟩ := hz33
  try have u33_0 : σ33 2 7 = σ23 2 7 := by first | exact o33 7 (by decide) | exact congrFun (f33 2 (by decide)) 7
  try have u33_1 : σ33 2 8 = σ23 2 8 := by first | exact o33 8 (by decide) | exact congrFun (f33 2 (by decide)) 8
  try have u33_2 : σ33 3 1 = σ23 3 1 := by first | exact o33 1 (by decide) | exact congrFun (f33 3 (by decide)) 1
  try have u33_3 : σ33 17 2 = σ23 17 2 := by first | exact o33 2 (by decide) | exact congrFun (f33 17 (by decide)) 2
  try have u33_4 : σ33 17 3 = σ23 17 3 := by first | exact o33 3 (by decide) | exact congrFun (f33 17 (by decide)) 3
  try have u33_5 : σ33 17 4 = σ23 17 4 := by first | exact o33 4 (by decide) | exact congrFun (f33 17 (by decide)) 4
  try have u33_6 : σ33 18 2 = σ23 18 2 := by first | exact o33 2 (by decide) | exact congrFun (f33 18 (by decide)) 2
  try have u33_7 : σ33 18 3 = σ23 18 3 := by first | exact o33 3 (by decide) | exact congrFun (f33 18 (by decide)) 3
  try have u33_8 : σ33 21 1 = σ23 21 1 := by first | exact o33 1 (by decide) | exact congrFun (f33 21 (by decide)) 1
  try have u33_9 : σ33 21 3 = σ23 21 3 := by first | exact o33 3 (by decide) | exact congrFun (f33 21 (by decide)) 3
  try have u33_10 : σ33 5 6 = σ23 5 6 := by first | exact o33 6 (by decide) | exact congrFun (f33 5 (by decide)) 6
  refine pe_pop d_S_showStatus_36 ?_
  refine pe_aload_n d_S_showStatus_37 rfl ?_
  refine pe_getr f_S_12 d_S_showStatus_38 rfl rfl ?_
  refine pe_aload_n d_S_showStatus_41 rfl ?_
  refine pe_geti f_S_34 d_S_showStatus_42 rfl rfl 4 rfl ?_
  refine pe_iconst d_S_showStatus_45 ?_
  refine pe_iadd d_S_showStatus_46 ?_
  refine pe_v1r d_S_showStatus_47 c_S_110 i_B_append s_B_append rfl rfl (y_B_append hB (by omega) x33.2 (by omega)) (fun σ47 hz47 => ?_)
  obtain ⟨hB, f47, x47⟩ := hz47
  try have u47_0 : σ47 2 7 = σ33 2 7 := by first | exact o47 7 (by decide) | exact congrFun (f47 2 (by decide)) 7
  try have u47_1 : σ47 2 8 = σ33 2 8 := by first | exact o47 8 (by decide) | exact congrFun (f47 2 (by decide)) 8
  try have u47_2 : σ47 3 1 = σ33 3 1 := by first | exact o47 1 (by decide) | exact congrFun (f47 3 (by decide)) 1
  try have u47_3 : σ47 17 2 = σ33 17 2 := by first | exact o47 2 (by decide) | exact congrFun (f47 17 (by decide)) 2
  try have u47_4 : σ47 17 3 = σ33 17 3 := by first | exact o47 3 (by decide) | exact congrFun (f47 17 (by decide)) 3
  try have u47_5 : σ47 17 4 = σ33 17 4 := by first | exact o47 4 (by decide) | exact congrFun (f47 17 (by decide)) 4
  try have u47_6 : σ47 18 2 = σ33 18 2 := by first | exact o47 2 (by decide) | exact congrFun (f47 18 (by decide)) 2
  try have u47_7 : σ47 18 3 = σ33 18 3 := by first | exact o47 3 (by decide) | exact congrFun (f47 18 (by decide)) 3
  try have u47_8 : σ47 21 1 = σ33 21 1 := by first | exact o47 1 (by decide) | exact congrFun (f47 21 (by decide)) 1
  try have u47_9 : σ47 21 3 = σ33 21 3 := by first | exact o47 3 (by decide) | exact congrFun (f47 21 (by decide)) 3
  try have u47_10 : σ47 5 6 = σ33 5 6 := by first | exact o47 6 (by decide) | exact congrFun (f47 5 (by decide)) 6
  refine pe_pop d_S_showStatus_50 ?_
  refine pe_aload_n d_S_showStatus_51 rfl ?_
  refine pe_getr f_S_117 d_S_showStatus_52 rfl rfl ?_
  refine pe_geti f_S_121 d_S_showStatus_55 rfl rfl 6 rfl ?_
  refine pe_if_le (t := 71) d_S_showStatus_58 (by first | exact hB _ _ | exact hB0 _ _ | exact hBt _ _ | exact ⟨by omega, by omega⟩) (fun h58 => ?_) (fun h58 => ?_)
  · skip
    refine pe_iconst d_S_showStatus_71 ?_
    refine pe_istore_n d_S_showStatus_72 ?_
    exact J73 (_, _) ⟨hB, (fun b hb => (f47 b (by simp at hb ⊢; try omega)).trans ((f33 b (by simp at hb ⊢; try omega)).trans ((f23 b (by simp at hb ⊢; try omega)).trans ((f5 b (by simp at hb ⊢; try omega)).trans (rfl))))), x47.2, ⟨fun j h1 h2 => by (try dsimp only at h2); omega, fun j h1 => by (try dsimp only); rw [((f47 19 (by decide)).trans ((f33 19 (by decide)).trans ((f23 19 (by decide)).trans ((f5 19 (by decide)).trans (rfl))))), ((f47 20 (by decide)).trans ((f33 20 (by decide)).trans ((f23 20 (by decide)).trans ((f5 20 (by decide)).trans (rfl)))))]; exact ⟨rfl, rfl⟩⟩, by (try dsimp only); omega⟩
  · skip
    exfalso; omega
