/-! p1: exact contracts of the class's text and history -/
theorem pe_insx {t g h s : Int → Int} {p n l f : Int} (hn : 0 ≤ n) (e1 : ∀ j, g j = if p + n ≤ j ∧ j < p + n + (l - p) then t (p + (j - (p + n))) else t j) (e2 : ∀ j, h j = if p ≤ j ∧ j < p + n then s (f + (j - p)) else g j) : ∀ j, 0 ≤ j → j < l + n → h j = if j < p then t j else if j < p + n then s (f + (j - p)) else t (j - n) := by
  intro j h1 h2
  rw [e2 j, e1 j]
  by_cases a : j < p
  · rw [if_neg (by omega), if_pos a]
    by_cases b : p + n ≤ j ∧ j < p + n + (l - p)
    · rw [if_pos b]; exact congrArg t (by omega)
    · rw [if_neg b]
  · rw [if_neg a]
    by_cases b : j < p + n
    · rw [if_pos (by omega), if_pos b]
    · rw [if_neg (by omega), if_neg b, if_pos (by omega)]
      exact congrArg t (by omega)
theorem pe_delx {t g : Int → Int} {p n l : Int} (e1 : ∀ j, g j = if p ≤ j ∧ j < p + (l - p - n) then t (p + n + (j - p)) else t j) : ∀ j, 0 ≤ j → j < l - n → g j = if j < p then t j else t (j + n) := by
  intro j h1 h2
  rw [e1 j]
  by_cases a : j < p
  · rw [if_neg (by omega), if_pos a]
  · rw [if_pos (by omega), if_neg a]
    exact congrArg t (by omega)
/-- the text after an insertion, after a removal; the history with one change more -/
def pe_ins (a b : pe_H) (p n : Int) (s : Int → Int) : Prop := b 3 1 = a 3 1 + n ∧ ∀ j, 0 ≤ j → j < a 3 1 + n → b 4 j = if j < p then a 4 j else if j < p + n then s (j - p) else a 4 (j - n)
def pe_del (a b : pe_H) (p n : Int) : Prop := b 3 1 = a 3 1 - n ∧ ∀ j, 0 ≤ j → j < a 3 1 - n → b 4 j = if j < p then a 4 j else a 4 (j + n)
def pe_hk (a b : pe_H) (p n u w : Int) : Prop := (b 5 5 = 0 ∧ b 5 6 = a 5 6 + 1) ∧ (b 6 (a 5 6) = p ∧ b 7 (a 5 6) = n ∧ b 8 (a 5 6) = u ∧ b 9 (a 5 6) = w) ∧ ∀ k, k ≠ a 5 6 → b 6 k = a 6 k ∧ b 7 k = a 7 k ∧ b 8 k = a 8 k ∧ b 9 k = a 9 k
theorem x_T_insert_16 {σ : pe_H} {p f n : Int} (hB : pe_B σ) (hp : 0 ≤ p ∧ p ≤ σ 3 1) (hn : 0 ≤ n ∧ σ 3 1 + n ≤ 200) (hf : 0 ≤ f ∧ f + n ≤ 1) : pe_M m_T_insert [pe_r 3, pe_i p, pe_r 16, pe_i f, pe_i n] σ (pe_qv (fun σ' => pe_B σ' ∧ (∀ b, b ∉ [3, 4] → σ' b = σ b) ∧ pe_ins σ σ' p n (fun i => σ 16 (f + i)))) := by
  refine pe_in0 (lv := [some (pe_r 3), some (pe_i p), some (pe_r 16), some (pe_i f), some (pe_i n)]) ?_
  have hB0 := hB
  refine pe_aload_n d_T_insert_0 rfl ?_
  refine pe_getr f_T_9 d_T_insert_1 rfl rfl ?_
  refine pe_iload_n d_T_insert_4 rfl ?_
  refine pe_aload_n d_T_insert_5 rfl ?_
  refine pe_getr f_T_9 d_T_insert_6 rfl rfl ?_
  refine pe_iload_n d_T_insert_9 rfl ?_
  refine pe_iload d_T_insert_10 rfl ?_
  refine pe_iadd d_T_insert_12 ?_
  refine pe_aload_n d_T_insert_13 rfl ?_
  refine pe_geti f_T_15 d_T_insert_14 rfl rfl 1 rfl ?_
  refine pe_iload_n d_T_insert_17 rfl ?_
  refine pe_isub d_T_insert_18 ?_
  refine pe_acopyT c_T_19 d_T_insert_19 rfl rfl (by omega) (by omega) (by omega) (by omega) (by omega) hB (fun σ19 hB e19 f19 => ?_)
  have o19 := f19
  try have u19_0 : σ19 3 1 = σ 3 1 := by first | exact o19 1 (by decide) | exact congrFun (f19 3 (by decide)) 1
  refine pe_aload_n d_T_insert_22 rfl ?_
  refine pe_iload_n d_T_insert_23 rfl ?_
  refine pe_aload_n d_T_insert_24 rfl ?_
  refine pe_getr f_T_9 d_T_insert_25 rfl rfl ?_
  refine pe_iload_n d_T_insert_28 rfl ?_
  refine pe_iload d_T_insert_29 rfl ?_
  refine pe_acopyT c_T_19 d_T_insert_31 rfl rfl (by omega) (by omega) (by omega) (by omega) (by omega) hB (fun σ31 hB e31 f31 => ?_)
  have o31 := f31
  try have u31_0 : σ31 3 1 = σ19 3 1 := by first | exact o31 1 (by decide) | exact congrFun (f31 3 (by decide)) 1
  refine pe_aload_n d_T_insert_34 rfl ?_
  refine pe_dup d_T_insert_35 ?_
  refine pe_geti f_T_15 d_T_insert_36 rfl rfl 1 rfl ?_
  refine pe_iload d_T_insert_39 rfl ?_
  refine pe_iadd d_T_insert_41 ?_
  refine pe_putiT f_T_15 g_3_1 d_T_insert_42 rfl rfl 1 rfl hB (by first | exact hB _ _ | exact hB0 _ _ | exact hBt _ _ | exact ⟨by omega, by omega⟩) (fun σ42 hB e42 o42 f42 => ?_)
  try have u42_0 : σ42 3 1 = σ31 3 1 := by first | exact o42 1 (by decide) | exact congrFun (f42 3 (by decide)) 1
  refine pe_rv d_T_insert_45 ?_
  exact ⟨hB, (fun b hb => (f42 b (by simp at hb ⊢; try omega)).trans ((f31 b (by simp at hb ⊢; try omega)).trans ((f19 b (by simp at hb ⊢; try omega)).trans (rfl)))), by omega, by
    rw [f42 4 (by decide)]
    refine pe_insx (s := σ 16) hn.1 e19 (fun j => ?_)
    rw [e31 j, f19 16 (by decide)]⟩
theorem x_T_insert_15 {σ : pe_H} {p f n : Int} (hB : pe_B σ) (hp : 0 ≤ p ∧ p ≤ σ 3 1) (hn : 0 ≤ n ∧ σ 3 1 + n ≤ 200) (hf : 0 ≤ f ∧ f + n ≤ 200) : pe_M m_T_insert [pe_r 3, pe_i p, pe_r 15, pe_i f, pe_i n] σ (pe_qv (fun σ' => pe_B σ' ∧ (∀ b, b ∉ [3, 4] → σ' b = σ b) ∧ pe_ins σ σ' p n (fun i => σ 15 (f + i)))) := by
  refine pe_in0 (lv := [some (pe_r 3), some (pe_i p), some (pe_r 15), some (pe_i f), some (pe_i n)]) ?_
  have hB0 := hB
  refine pe_aload_n d_T_insert_0 rfl ?_
  refine pe_getr f_T_9 d_T_insert_1 rfl rfl ?_
  refine pe_iload_n d_T_insert_4 rfl ?_
  refine pe_aload_n d_T_insert_5 rfl ?_
  refine pe_getr f_T_9 d_T_insert_6 rfl rfl ?_
  refine pe_iload_n d_T_insert_9 rfl ?_
  refine pe_iload d_T_insert_10 rfl ?_
  refine pe_iadd d_T_insert_12 ?_
  refine pe_aload_n d_T_insert_13 rfl ?_
  refine pe_geti f_T_15 d_T_insert_14 rfl rfl 1 rfl ?_
  refine pe_iload_n d_T_insert_17 rfl ?_
  refine pe_isub d_T_insert_18 ?_
  refine pe_acopyT c_T_19 d_T_insert_19 rfl rfl (by omega) (by omega) (by omega) (by omega) (by omega) hB (fun σ19 hB e19 f19 => ?_)
  have o19 := f19
  try have u19_0 : σ19 3 1 = σ 3 1 := by first | exact o19 1 (by decide) | exact congrFun (f19 3 (by decide)) 1
  refine pe_aload_n d_T_insert_22 rfl ?_
  refine pe_iload_n d_T_insert_23 rfl ?_
  refine pe_aload_n d_T_insert_24 rfl ?_
  refine pe_getr f_T_9 d_T_insert_25 rfl rfl ?_
  refine pe_iload_n d_T_insert_28 rfl ?_
  refine pe_iload d_T_insert_29 rfl ?_
  refine pe_acopyT c_T_19 d_T_insert_31 rfl rfl (by omega) (by omega) (by omega) (by omega) (by omega) hB (fun σ31 hB e31 f31 => ?_)
  have o31 := f31
  try have u31_0 : σ31 3 1 = σ19 3 1 := by first | exact o31 1 (by decide) | exact congrFun (f31 3 (by decide)) 1
  refine pe_aload_n d_T_insert_34 rfl ?_
  refine pe_dup d_T_insert_35 ?_
  refine pe_geti f_T_15 d_T_insert_36 rfl rfl 1 rfl ?_
  refine pe_iload d_T_insert_39 rfl ?_
  refine pe_iadd d_T_insert_41 ?_
  refine pe_putiT f_T_15 g_3_1 d_T_insert_42 rfl rfl 1 rfl hB (by first | exact hB _ _ | exact hB0 _ _ | exact hBt _ _ | exact ⟨by omega, by omega⟩) (fun σ42 hB e42 o42 f42 => ?_)
  try have u42_0 : σ42 3 1 = σ31 3 1 := by first | exact o42 1 (by decide) | exact congrFun (f42 3 (by decide)) 1
  refine pe_rv d_T_insert_45 ?_
  exact ⟨hB, (fun b hb => (f42 b (by simp at hb ⊢; try omega)).trans ((f31 b (by simp at hb ⊢; try omega)).trans ((f19 b (by simp at hb ⊢; try omega)).trans (rfl)))), by omega, by
    rw [f42 4 (by decide)]
    refine pe_insx (s := σ 15) hn.1 e19 (fun j => ?_)
    rw [e31 j, f19 15 (by decide)]⟩
theorem x_T_insert_10 {σ : pe_H} {p f n : Int} (hB : pe_B σ) (hp : 0 ≤ p ∧ p ≤ σ 3 1) (hn : 0 ≤ n ∧ σ 3 1 + n ≤ 200) (hf : 0 ≤ f ∧ f + n ≤ 2400) : pe_M m_T_insert [pe_r 3, pe_i p, pe_r 10, pe_i f, pe_i n] σ (pe_qv (fun σ' => pe_B σ' ∧ (∀ b, b ∉ [3, 4] → σ' b = σ b) ∧ pe_ins σ σ' p n (fun i => σ 10 (f + i)))) := by
  refine pe_in0 (lv := [some (pe_r 3), some (pe_i p), some (pe_r 10), some (pe_i f), some (pe_i n)]) ?_
  have hB0 := hB
  refine pe_aload_n d_T_insert_0 rfl ?_
  refine pe_getr f_T_9 d_T_insert_1 rfl rfl ?_
  refine pe_iload_n d_T_insert_4 rfl ?_
  refine pe_aload_n d_T_insert_5 rfl ?_
  refine pe_getr f_T_9 d_T_insert_6 rfl rfl ?_
  refine pe_iload_n d_T_insert_9 rfl ?_
  refine pe_iload d_T_insert_10 rfl ?_
  refine pe_iadd d_T_insert_12 ?_
  refine pe_aload_n d_T_insert_13 rfl ?_
  refine pe_geti f_T_15 d_T_insert_14 rfl rfl 1 rfl ?_
  refine pe_iload_n d_T_insert_17 rfl ?_
  refine pe_isub d_T_insert_18 ?_
  refine pe_acopyT c_T_19 d_T_insert_19 rfl rfl (by omega) (by omega) (by omega) (by omega) (by omega) hB (fun σ19 hB e19 f19 => ?_)
  have o19 := f19
  try have u19_0 : σ19 3 1 = σ 3 1 := by first | exact o19 1 (by decide) | exact congrFun (f19 3 (by decide)) 1
  refine pe_aload_n d_T_insert_22 rfl ?_
  refine pe_iload_n d_T_insert_23 rfl ?_
  refine pe_aload_n d_T_insert_24 rfl ?_
  refine pe_getr f_T_9 d_T_insert_25 rfl rfl ?_
  refine pe_iload_n d_T_insert_28 rfl ?_
  refine pe_iload d_T_insert_29 rfl ?_
  refine pe_acopyT c_T_19 d_T_insert_31 rfl rfl (by omega) (by omega) (by omega) (by omega) (by omega) hB (fun σ31 hB e31 f31 => ?_)
  have o31 := f31
  try have u31_0 : σ31 3 1 = σ19 3 1 := by first | exact o31 1 (by decide) | exact congrFun (f31 3 (by decide)) 1
  refine pe_aload_n d_T_insert_34 rfl ?_
  refine pe_dup d_T_insert_35 ?_
  refine pe_geti f_T_15 d_T_insert_36 rfl rfl 1 rfl ?_
  refine pe_iload d_T_insert_39 rfl ?_
  refine pe_iadd d_T_insert_41 ?_
  refine pe_putiT f_T_15 g_3_1 d_T_insert_42 rfl rfl 1 rfl hB (by first | exact hB _ _ | exact hB0 _ _ | exact hBt _ _ | exact ⟨by omega, by omega⟩) (fun σ42 hB e42 o42 f42 => ?_)
  try have u42_0 : σ42 3 1 = σ31 3 1 := by first | exact o42 1 (by decide) | exact congrFun (f42 3 (by decide)) 1
  refine pe_rv d_T_insert_45 ?_
  exact ⟨hB, (fun b hb => (f42 b (by simp at hb ⊢; try omega)).trans ((f31 b (by simp at hb ⊢; try omega)).trans ((f19 b (by simp at hb ⊢; try omega)).trans (rfl)))), by omega, by
    rw [f42 4 (by decide)]
    refine pe_insx (s := σ 10) hn.1 e19 (fun j => ?_)
    rw [e31 j, f19 10 (by decide)]⟩
theorem x_T_remove {σ : pe_H} {p n : Int} (hB : pe_B σ) (hp : 0 ≤ p ∧ 0 ≤ n ∧ p + n ≤ σ 3 1) (hl : σ 3 1 ≤ 200) : pe_M m_T_remove [pe_r 3, pe_i p, pe_i n] σ (pe_qv (fun σ' => pe_B σ' ∧ (∀ b, b ∉ [3, 4] → σ' b = σ b) ∧ pe_del σ σ' p n)) := by
  refine pe_in0 (lv := [some (pe_r 3), some (pe_i p), some (pe_i n)]) ?_
  have hB0 := hB
  refine pe_aload_n d_T_remove_0 rfl ?_
  refine pe_getr f_T_9 d_T_remove_1 rfl rfl ?_
  refine pe_iload_n d_T_remove_4 rfl ?_
  refine pe_iload_n d_T_remove_5 rfl ?_
  refine pe_iadd d_T_remove_6 ?_
  refine pe_aload_n d_T_remove_7 rfl ?_
  refine pe_getr f_T_9 d_T_remove_8 rfl rfl ?_
  refine pe_iload_n d_T_remove_11 rfl ?_
  refine pe_aload_n d_T_remove_12 rfl ?_
  refine pe_geti f_T_15 d_T_remove_13 rfl rfl 1 rfl ?_
  refine pe_iload_n d_T_remove_16 rfl ?_
  refine pe_isub d_T_remove_17 ?_
  refine pe_iload_n d_T_remove_18 rfl ?_
  refine pe_isub d_T_remove_19 ?_
  refine pe_acopyT c_T_19 d_T_remove_20 rfl rfl (by omega) (by omega) (by omega) (by omega) (by omega) hB (fun σ20 hB e20 f20 => ?_)
  have o20 := f20
  try have u20_0 : σ20 3 1 = σ 3 1 := by first | exact o20 1 (by decide) | exact congrFun (f20 3 (by decide)) 1
  refine pe_aload_n d_T_remove_23 rfl ?_
  refine pe_dup d_T_remove_24 ?_
  refine pe_geti f_T_15 d_T_remove_25 rfl rfl 1 rfl ?_
  refine pe_iload_n d_T_remove_28 rfl ?_
  refine pe_isub d_T_remove_29 ?_
  refine pe_putiT f_T_15 g_3_1 d_T_remove_30 rfl rfl 1 rfl hB (by first | exact hB _ _ | exact hB0 _ _ | exact hBt _ _ | exact ⟨by omega, by omega⟩) (fun σ30 hB e30 o30 f30 => ?_)
  try have u30_0 : σ30 3 1 = σ20 3 1 := by first | exact o30 1 (by decide) | exact congrFun (f30 3 (by decide)) 1
  refine pe_rv d_T_remove_33 ?_
  exact ⟨hB, (fun b hb => (f30 b (by simp at hb ⊢; try omega)).trans ((f20 b (by simp at hb ⊢; try omega)).trans (rfl))), by omega, by
    rw [f30 4 (by decide)]
    exact pe_delx e20⟩
theorem x_T_copyTo_15 {σ : pe_H} {t p n : Int} (hB : pe_B σ) (hp : 0 ≤ p ∧ 0 ≤ n ∧ p + n ≤ σ 3 1) (hl : σ 3 1 ≤ 200) (ht : 0 ≤ t ∧ t + n ≤ 200) : pe_M m_T_copyTo [pe_r 3, pe_r 15, pe_i t, pe_i p, pe_i n] σ (pe_qv (fun σ' => pe_B σ' ∧ (∀ b, b ∉ [15] → σ' b = σ b) ∧ ∀ j, σ' 15 j = if t ≤ j ∧ j < t + n then σ 4 (p + (j - t)) else σ 15 j)) := by
  refine pe_in0 (lv := [some (pe_r 3), some (pe_r 15), some (pe_i t), some (pe_i p), some (pe_i n)]) ?_
  have hB0 := hB
  refine pe_aload_n d_T_copyTo_0 rfl ?_
  refine pe_getr f_T_9 d_T_copyTo_1 rfl rfl ?_
  refine pe_iload_n d_T_copyTo_4 rfl ?_
  refine pe_aload_n d_T_copyTo_5 rfl ?_
  refine pe_iload_n d_T_copyTo_6 rfl ?_
  refine pe_iload d_T_copyTo_7 rfl ?_
  refine pe_acopyT c_T_19 d_T_copyTo_9 rfl rfl (by omega) (by omega) (by omega) (by omega) (by omega) hB (fun σ9 hB e9 f9 => ?_)
  have o9 := f9
  refine pe_rv d_T_copyTo_12 ?_
  exact ⟨hB, (fun b hb => (f9 b (by simp at hb ⊢; try omega)).trans (rfl)), e9⟩
theorem x_T_copyTo_10 {σ : pe_H} {t p n : Int} (hB : pe_B σ) (hp : 0 ≤ p ∧ 0 ≤ n ∧ p + n ≤ σ 3 1) (hl : σ 3 1 ≤ 200) (ht : 0 ≤ t ∧ t + n ≤ 2400) : pe_M m_T_copyTo [pe_r 3, pe_r 10, pe_i t, pe_i p, pe_i n] σ (pe_qv (fun σ' => pe_B σ' ∧ (∀ b, b ∉ [10] → σ' b = σ b) ∧ ∀ j, σ' 10 j = if t ≤ j ∧ j < t + n then σ 4 (p + (j - t)) else σ 10 j)) := by
  refine pe_in0 (lv := [some (pe_r 3), some (pe_r 10), some (pe_i t), some (pe_i p), some (pe_i n)]) ?_
  have hB0 := hB
  refine pe_aload_n d_T_copyTo_0 rfl ?_
  refine pe_getr f_T_9 d_T_copyTo_1 rfl rfl ?_
  refine pe_iload_n d_T_copyTo_4 rfl ?_
  refine pe_aload_n d_T_copyTo_5 rfl ?_
  refine pe_iload_n d_T_copyTo_6 rfl ?_
  refine pe_iload d_T_copyTo_7 rfl ?_
  refine pe_acopyT c_T_19 d_T_copyTo_9 rfl rfl (by omega) (by omega) (by omega) (by omega) (by omega) hB (fun σ9 hB e9 f9 => ?_)
  have o9 := f9
  refine pe_rv d_T_copyTo_12 ?_
  exact ⟨hB, (fun b hb => (f9 b (by simp at hb ⊢; try omega)).trans (rfl)), e9⟩
theorem pe_bgx {t : Int → Int} {n p a b d : Int} (hn : 0 ≤ n) (hp : 0 ≤ p ∧ p ≤ n) (hv : ∀ j, 0 ≤ j → j < n → t j = 9 ∨ t j = 10 ∨ (32 ≤ t j ∧ t j ≤ 65535)) (ha : a = if 0 ≤ p ∧ p < n then t p else -1) (hb : b = if 0 ≤ p - 1 ∧ p - 1 < n then t (p - 1) else -1) (hd : d = if 0 ≤ (if 768 ≤ b ∧ b ≤ 879 then p - 2 else p - 1) ∧ (if 768 ≤ b ∧ b ≤ 879 then p - 2 else p - 1) < n then t (if 768 ≤ b ∧ b ≤ 879 then p - 2 else p - 1) else -1) : pe_bg t n p ↔ ¬ (768 ≤ a ∧ a ≤ 879) ∨ ¬ (32 ≤ d ∧ ¬ (768 ≤ d ∧ d ≤ 879)) := by
  unfold pe_bg
  by_cases h1 : p < n
  · rw [if_pos ⟨hp.1, h1⟩] at ha
    by_cases h2 : 1 ≤ p
    · rw [if_pos ⟨by omega, by omega⟩] at hb
      have v1 := hv (p - 1) (by omega) (by omega)
      by_cases h3 : 768 ≤ b ∧ b ≤ 879
      · rw [if_pos h3] at hd
        by_cases h4 : 2 ≤ p
        · rw [if_pos ⟨by omega, by omega⟩] at hd
          have v2 := hv (p - 2) (by omega) (by omega)
          omega
        · rw [if_neg (by omega)] at hd
          omega
      · rw [if_neg h3, if_pos ⟨by omega, by omega⟩] at hd
        omega
    · rw [if_neg (by omega)] at hb
      rw [if_neg (show ¬ (768 ≤ b ∧ b ≤ 879) by omega), if_neg (by omega)] at hd
      omega
  · rw [if_neg (by omega)] at ha
    omega
theorem pe_bg1 {t : Int → Int} {n p a : Int} (hp : 0 ≤ p) (ha : a = if 0 ≤ p ∧ p < n then t p else -1) (h : ¬ (768 ≤ a ∧ a ≤ 879)) : pe_bg t n p := by
  unfold pe_bg
  by_cases h1 : p < n
  · rw [if_pos ⟨hp, h1⟩] at ha
    omega
  · omega
theorem x_T_isBeginning {σ : pe_H} {p : Int} (hB : pe_B σ) (hp : 0 ≤ p ∧ p ≤ σ 3 1) (hl : 0 ≤ σ 3 1 ∧ σ 3 1 ≤ 200) (hv : ∀ j, 0 ≤ j → j < σ 3 1 → σ 4 j = 9 ∨ σ 4 j = 10 ∨ (32 ≤ σ 4 j ∧ σ 4 j ≤ 65535)) : pe_M m_T_isBeginning [pe_r 3, pe_i p] σ (pe_qp σ (fun z => (z = 0 ∨ z = 1) ∧ (z = 1 ↔ pe_bg (σ 4) (σ 3 1) p))) := by
  refine pe_in0 (lv := [some (pe_r 3), some (pe_i p), none]) ?_
  have hB0 := hB
  refine pe_aload_n d_T_isBeginning_0 rfl ?_
  refine pe_iload_n d_T_isBeginning_1 rfl ?_
  refine pe_v1p d_T_isBeginning_2 c_T_25 i_T_codeAt s_T_codeAt rfl rfl (t_T_codeAt hB (by first | exact hB _ _ | exact hB0 _ _ | exact hBt _ _ | exact ⟨by omega, by omega⟩) (by omega)) (fun z2 hz2 => ?_)
  have hR2 : pe_R z2 := by rw [hz2]; split <;> first | exact hB _ _ | exact ⟨by omega, by omega⟩
  refine pe_s1p d_T_isBeginning_5 c_T_29 z_C_isMark (t_C_isMark (by first | exact hB _ _ | exact hB0 _ _ | exact hBt _ _ | exact ⟨by omega, by omega⟩)) (fun z5 hz5 => ?_)
  refine pe_if_ne (t := 13) d_T_isBeginning_8 (by first | exact hB _ _ | exact hB0 _ _ | exact hBt _ _ | exact ⟨by omega, by omega⟩) (fun h8 => ?_) (fun h8 => ?_)
  · skip
    refine pe_aload_n d_T_isBeginning_13 rfl ?_
    refine pe_iload_n d_T_isBeginning_14 rfl ?_
    refine pe_iconst d_T_isBeginning_15 ?_
    refine pe_isub d_T_isBeginning_16 ?_
    refine pe_v1p d_T_isBeginning_17 c_T_25 i_T_codeAt s_T_codeAt rfl rfl (t_T_codeAt hB (by first | exact hB _ _ | exact hB0 _ _ | exact hBt _ _ | exact ⟨by omega, by omega⟩) (by omega)) (fun z17 hz17 => ?_)
    have hR17 : pe_R z17 := by rw [hz17]; split <;> first | exact hB _ _ | exact ⟨by omega, by omega⟩
    refine pe_s1p d_T_isBeginning_20 c_T_29 z_C_isMark (t_C_isMark (by first | exact hB _ _ | exact hB0 _ _ | exact hBt _ _ | exact ⟨by omega, by omega⟩)) (fun z20 hz20 => ?_)
    refine pe_if_eq (t := 32) d_T_isBeginning_23 (by first | exact hB _ _ | exact hB0 _ _ | exact hBt _ _ | exact ⟨by omega, by omega⟩) (fun h23 => ?_) (fun h23 => ?_)
    · skip
      refine pe_iload_n d_T_isBeginning_32 rfl ?_
      refine pe_iconst d_T_isBeginning_33 ?_
      refine pe_isub d_T_isBeginning_34 ?_
      refine pe_istore_n d_T_isBeginning_35 ?_
      refine pe_aload_n d_T_isBeginning_36 rfl ?_
      refine pe_iload_n d_T_isBeginning_37 rfl ?_
      refine pe_v1p d_T_isBeginning_38 c_T_25 i_T_codeAt s_T_codeAt rfl rfl (t_T_codeAt hB (by first | exact hB _ _ | exact hB0 _ _ | exact hBt _ _ | exact ⟨by omega, by omega⟩) (by omega)) (fun z38 hz38 => ?_)
      have hR38 : pe_R z38 := by rw [hz38]; split <;> first | exact hB _ _ | exact ⟨by omega, by omega⟩
      refine pe_s1p d_T_isBeginning_41 c_T_35 z_C_takesMarks (t_C_takesMarks (by first | exact hB _ _ | exact hB0 _ _ | exact hBt _ _ | exact ⟨by omega, by omega⟩)) (fun z41 hz41 => ?_)
      refine pe_if_ne (t := 51) d_T_isBeginning_44 (by first | exact hB _ _ | exact hB0 _ _ | exact hBt _ _ | exact ⟨by omega, by omega⟩) (fun h44 => ?_) (fun h44 => ?_)
      · skip
        refine pe_iconst d_T_isBeginning_51 ?_
        refine pe_rz d_T_isBeginning_52 (by first | exact Or.inl rfl | exact Or.inr rfl | omega) ?_
        first
        | (have hb : 768 ≤ z17 ∧ z17 ≤ 879 := by omega
           have q := pe_bgx (d := z38) hl.1 hp hv hz2 hz17 (by rw [if_pos hb]; exact hz38)
           exact ⟨rfl, by omega, by rw [q]; omega⟩)
        | (have hb : ¬ (768 ≤ z17 ∧ z17 ≤ 879) := by omega
           have q := pe_bgx (d := z38) hl.1 hp hv hz2 hz17 (by rw [if_neg hb]; exact hz38)
           exact ⟨rfl, by omega, by rw [q]; omega⟩)
      · skip
        refine pe_iconst d_T_isBeginning_47 ?_
        refine pe_goto (t := 52) d_T_isBeginning_48 ?_
        refine pe_rz d_T_isBeginning_52 (by first | exact Or.inl rfl | exact Or.inr rfl | omega) ?_
        first
        | (have hb : 768 ≤ z17 ∧ z17 ≤ 879 := by omega
           have q := pe_bgx (d := z38) hl.1 hp hv hz2 hz17 (by rw [if_pos hb]; exact hz38)
           exact ⟨rfl, by omega, by rw [q]; omega⟩)
        | (have hb : ¬ (768 ≤ z17 ∧ z17 ≤ 879) := by omega
           have q := pe_bgx (d := z38) hl.1 hp hv hz2 hz17 (by rw [if_neg hb]; exact hz38)
           exact ⟨rfl, by omega, by rw [q]; omega⟩)
    · skip
      refine pe_iload_n d_T_isBeginning_26 rfl ?_
      refine pe_iconst d_T_isBeginning_27 ?_
      refine pe_isub d_T_isBeginning_28 ?_
      refine pe_goto (t := 35) d_T_isBeginning_29 ?_
      refine pe_istore_n d_T_isBeginning_35 ?_
      refine pe_aload_n d_T_isBeginning_36 rfl ?_
      refine pe_iload_n d_T_isBeginning_37 rfl ?_
      refine pe_v1p d_T_isBeginning_38 c_T_25 i_T_codeAt s_T_codeAt rfl rfl (t_T_codeAt hB (by first | exact hB _ _ | exact hB0 _ _ | exact hBt _ _ | exact ⟨by omega, by omega⟩) (by omega)) (fun z38 hz38 => ?_)
      have hR38 : pe_R z38 := by rw [hz38]; split <;> first | exact hB _ _ | exact ⟨by omega, by omega⟩
      refine pe_s1p d_T_isBeginning_41 c_T_35 z_C_takesMarks (t_C_takesMarks (by first | exact hB _ _ | exact hB0 _ _ | exact hBt _ _ | exact ⟨by omega, by omega⟩)) (fun z41 hz41 => ?_)
      refine pe_if_ne (t := 51) d_T_isBeginning_44 (by first | exact hB _ _ | exact hB0 _ _ | exact hBt _ _ | exact ⟨by omega, by omega⟩) (fun h44 => ?_) (fun h44 => ?_)
      · skip
        refine pe_iconst d_T_isBeginning_51 ?_
        refine pe_rz d_T_isBeginning_52 (by first | exact Or.inl rfl | exact Or.inr rfl | omega) ?_
        first
        | (have hb : 768 ≤ z17 ∧ z17 ≤ 879 := by omega
           have q := pe_bgx (d := z38) hl.1 hp hv hz2 hz17 (by rw [if_pos hb]; exact hz38)
           exact ⟨rfl, by omega, by rw [q]; omega⟩)
        | (have hb : ¬ (768 ≤ z17 ∧ z17 ≤ 879) := by omega
           have q := pe_bgx (d := z38) hl.1 hp hv hz2 hz17 (by rw [if_neg hb]; exact hz38)
           exact ⟨rfl, by omega, by rw [q]; omega⟩)
      · skip
        refine pe_iconst d_T_isBeginning_47 ?_
        refine pe_goto (t := 52) d_T_isBeginning_48 ?_
        refine pe_rz d_T_isBeginning_52 (by first | exact Or.inl rfl | exact Or.inr rfl | omega) ?_
        first
        | (have hb : 768 ≤ z17 ∧ z17 ≤ 879 := by omega
           have q := pe_bgx (d := z38) hl.1 hp hv hz2 hz17 (by rw [if_pos hb]; exact hz38)
           exact ⟨rfl, by omega, by rw [q]; omega⟩)
        | (have hb : ¬ (768 ≤ z17 ∧ z17 ≤ 879) := by omega
           have q := pe_bgx (d := z38) hl.1 hp hv hz2 hz17 (by rw [if_neg hb]; exact hz38)
           exact ⟨rfl, by omega, by rw [q]; omega⟩)
  · skip
    refine pe_iconst d_T_isBeginning_11 ?_
    refine pe_rz d_T_isBeginning_12 (by first | exact Or.inl rfl | exact Or.inr rfl | omega) ?_
    exact ⟨rfl, Or.inr rfl, fun _ => pe_bg1 hp.1 hz2 (by omega), fun _ => rfl⟩
theorem x_T_beginningFrom {σ : pe_H} {p : Int} (hB : pe_B σ) (hp : 0 ≤ p ∧ p ≤ σ 3 1 + 1) (hl : 0 ≤ σ 3 1 ∧ σ 3 1 ≤ 200) (hv : ∀ j, 0 ≤ j → j < σ 3 1 → σ 4 j = 9 ∨ σ 4 j = 10 ∨ (32 ≤ σ 4 j ∧ σ 4 j ≤ 65535)) : pe_M m_T_beginningFrom [pe_r 3, pe_i p] σ (pe_qp σ (fun z => (0 ≤ z ∧ z ≤ σ 3 1 ∧ (p ≤ σ 3 1 → p ≤ z) ∧ (σ 3 1 < p → z = σ 3 1)) ∧ pe_bg (σ 4) (σ 3 1) z ∧ ∀ j, p ≤ j → j < z → ¬ pe_bg (σ 4) (σ 3 1) j)) := by
  refine pe_in0 (lv := [some (pe_r 3), some (pe_i p), none]) ?_
  have hB0 := hB
  have J2 : ∀ f : Int, ((p ≤ f ∧ f ≤ σ 3 1 + 1 ∧ (p ≤ σ 3 1 → f ≤ σ 3 1)) ∧ ∀ j, p ≤ j → j < f → ¬ pe_bg (σ 4) (σ 3 1) j) → pe_G m_T_beginningFrom 2 [some (pe_r 3), some (pe_i p), some (pe_i f)] [] σ (pe_qp σ (fun z => (0 ≤ z ∧ z ≤ σ 3 1 ∧ (p ≤ σ 3 1 → p ≤ z) ∧ (σ 3 1 < p → z = σ 3 1)) ∧ pe_bg (σ 4) (σ 3 1) z ∧ ∀ j, p ≤ j → j < z → ¬ pe_bg (σ 4) (σ 3 1) j)) := by
    refine pe_loop (fun f : Int => (500 - f).toNat) _ _ ?_
    intro f hI ih
    refine pe_iload_n d_T_beginningFrom_2 rfl ?_
    refine pe_aload_n d_T_beginningFrom_3 rfl ?_
    refine pe_geti f_T_15 d_T_beginningFrom_4 rfl rfl 1 rfl ?_
    refine pe_icmp_ge (t := 24) d_T_beginningFrom_7 (by first | exact hB _ _ | exact hB0 _ _ | exact hBt _ _ | exact ⟨by omega, by omega⟩) (by first | exact hB _ _ | exact hB0 _ _ | exact hBt _ _ | exact ⟨by omega, by omega⟩) (fun h7 => ?_) (fun h7 => ?_)
    · skip
      refine pe_iload_n d_T_beginningFrom_24 rfl ?_
      refine pe_aload_n d_T_beginningFrom_25 rfl ?_
      refine pe_geti f_T_15 d_T_beginningFrom_26 rfl rfl 1 rfl ?_
      refine pe_minT c_T_41 d_T_beginningFrom_29 (by first | exact hB _ _ | exact hB0 _ _ | exact hBt _ _ | exact ⟨by omega, by omega⟩) (by first | exact hB _ _ | exact hB0 _ _ | exact hBt _ _ | exact ⟨by omega, by omega⟩) (fun z29 hz29 => ?_)
      refine pe_ri d_T_beginningFrom_32 ?_
      first
      | (have e : z29 = σ 3 1 := by omega
         exact ⟨rfl, by omega, by rw [e]; exact Or.inl (Int.le_refl _), fun j h1 h2 => hI.2 j h1 (by omega)⟩)
      | (have e : z29 = f := by omega
         exact ⟨rfl, by omega, by rw [e]; exact hz12.2.mp (by omega), fun j h1 h2 => hI.2 j h1 (by omega)⟩)
    · skip
      refine pe_aload_n d_T_beginningFrom_10 rfl ?_
      refine pe_iload_n d_T_beginningFrom_11 rfl ?_
      refine pe_v1p d_T_beginningFrom_12 c_T_38 i_T_isBeginning s_T_isBeginning rfl rfl (x_T_isBeginning hB (by omega) (by omega) hv) (fun z12 hz12 => ?_)
      refine pe_if_ne (t := 24) d_T_beginningFrom_15 (by first | exact hB _ _ | exact hB0 _ _ | exact hBt _ _ | exact ⟨by omega, by omega⟩) (fun h15 => ?_) (fun h15 => ?_)
      · skip
        refine pe_iload_n d_T_beginningFrom_24 rfl ?_
        refine pe_aload_n d_T_beginningFrom_25 rfl ?_
        refine pe_geti f_T_15 d_T_beginningFrom_26 rfl rfl 1 rfl ?_
        refine pe_minT c_T_41 d_T_beginningFrom_29 (by first | exact hB _ _ | exact hB0 _ _ | exact hBt _ _ | exact ⟨by omega, by omega⟩) (by first | exact hB _ _ | exact hB0 _ _ | exact hBt _ _ | exact ⟨by omega, by omega⟩) (fun z29 hz29 => ?_)
        refine pe_ri d_T_beginningFrom_32 ?_
        first
        | (have e : z29 = σ 3 1 := by omega
           exact ⟨rfl, by omega, by rw [e]; exact Or.inl (Int.le_refl _), fun j h1 h2 => hI.2 j h1 (by omega)⟩)
        | (have e : z29 = f := by omega
           exact ⟨rfl, by omega, by rw [e]; exact hz12.2.mp (by omega), fun j h1 h2 => hI.2 j h1 (by omega)⟩)
      · skip
        refine pe_iinc d_T_beginningFrom_18 rfl ?_
        refine pe_goto (t := 2) d_T_beginningFrom_21 ?_
        exact ih _ ⟨by omega, fun j h1 h2 => by
          by_cases q : j = f
          · rw [q]; intro w; have := hz12.2.mpr w; omega
          · exact hI.2 j h1 (by omega)⟩ (by omega)
  refine pe_iload_n d_T_beginningFrom_0 rfl ?_
  refine pe_istore_n d_T_beginningFrom_1 ?_
  exact J2 _ ⟨by omega, fun j h1 h2 => by omega⟩
theorem x_T_beginningAhead {σ : pe_H} {p : Int} (hB : pe_B σ) (hp : 0 ≤ p ∧ p ≤ σ 3 1) (hl : 0 ≤ σ 3 1 ∧ σ 3 1 ≤ 200) (hv : ∀ j, 0 ≤ j → j < σ 3 1 → σ 4 j = 9 ∨ σ 4 j = 10 ∨ (32 ≤ σ 4 j ∧ σ 4 j ≤ 65535)) : pe_M m_T_beginningAhead [pe_r 3, pe_i p] σ (pe_qp σ (fun z => (0 ≤ z ∧ (1 ≤ p → z < p) ∧ (p = 0 → z = 0)) ∧ pe_bg (σ 4) (σ 3 1) z ∧ ∀ j, z < j → j < p → ¬ pe_bg (σ 4) (σ 3 1) j)) := by
  refine pe_in0 (lv := [some (pe_r 3), some (pe_i p), none]) ?_
  have hB0 := hB
  have J4 : ∀ f : Int, ((-1 ≤ f ∧ f ≤ p - 1 ∧ (1 ≤ p → 0 ≤ f)) ∧ ∀ j, f < j → j < p → ¬ pe_bg (σ 4) (σ 3 1) j) → pe_G m_T_beginningAhead 4 [some (pe_r 3), some (pe_i p), some (pe_i f)] [] σ (pe_qp σ (fun z => (0 ≤ z ∧ (1 ≤ p → z < p) ∧ (p = 0 → z = 0)) ∧ pe_bg (σ 4) (σ 3 1) z ∧ ∀ j, z < j → j < p → ¬ pe_bg (σ 4) (σ 3 1) j)) := by
    refine pe_loop (fun f : Int => (f + 5).toNat) _ _ ?_
    intro f hI ih
    refine pe_iload_n d_T_beginningAhead_4 rfl ?_
    refine pe_if_le (t := 22) d_T_beginningAhead_5 (by first | exact hB _ _ | exact hB0 _ _ | exact hBt _ _ | exact ⟨by omega, by omega⟩) (fun h5 => ?_) (fun h5 => ?_)
    · skip
      refine pe_iload_n d_T_beginningAhead_22 rfl ?_
      refine pe_iconst d_T_beginningAhead_23 ?_
      refine pe_maxT c_T_47 d_T_beginningAhead_24 (by first | exact hB _ _ | exact hB0 _ _ | exact hBt _ _ | exact ⟨by omega, by omega⟩) (by first | exact hB _ _ | exact hB0 _ _ | exact hBt _ _ | exact ⟨by omega, by omega⟩) (fun z24 hz24 => ?_)
      refine pe_ri d_T_beginningAhead_27 ?_
      first
      | (have e : z24 = 0 := by omega
         exact ⟨rfl, by omega, by rw [e]; exact pe_bg0 _ _, fun j h1 h2 => hI.2 j (by omega) h2⟩)
      | (have e : z24 = f := by omega
         exact ⟨rfl, by omega, by rw [e]; exact hz10.2.mp (by omega), fun j h1 h2 => hI.2 j (by omega) h2⟩)
    · skip
      refine pe_aload_n d_T_beginningAhead_8 rfl ?_
      refine pe_iload_n d_T_beginningAhead_9 rfl ?_
      refine pe_v1p d_T_beginningAhead_10 c_T_38 i_T_isBeginning s_T_isBeginning rfl rfl (x_T_isBeginning hB (by omega) (by omega) hv) (fun z10 hz10 => ?_)
      refine pe_if_ne (t := 22) d_T_beginningAhead_13 (by first | exact hB _ _ | exact hB0 _ _ | exact hBt _ _ | exact ⟨by omega, by omega⟩) (fun h13 => ?_) (fun h13 => ?_)
      · skip
        refine pe_iload_n d_T_beginningAhead_22 rfl ?_
        refine pe_iconst d_T_beginningAhead_23 ?_
        refine pe_maxT c_T_47 d_T_beginningAhead_24 (by first | exact hB _ _ | exact hB0 _ _ | exact hBt _ _ | exact ⟨by omega, by omega⟩) (by first | exact hB _ _ | exact hB0 _ _ | exact hBt _ _ | exact ⟨by omega, by omega⟩) (fun z24 hz24 => ?_)
        refine pe_ri d_T_beginningAhead_27 ?_
        first
        | (have e : z24 = 0 := by omega
           exact ⟨rfl, by omega, by rw [e]; exact pe_bg0 _ _, fun j h1 h2 => hI.2 j (by omega) h2⟩)
        | (have e : z24 = f := by omega
           exact ⟨rfl, by omega, by rw [e]; exact hz10.2.mp (by omega), fun j h1 h2 => hI.2 j (by omega) h2⟩)
      · skip
        refine pe_iinc d_T_beginningAhead_16 rfl ?_
        refine pe_goto (t := 4) d_T_beginningAhead_19 ?_
        exact ih _ ⟨by omega, fun j h1 h2 => by
          by_cases q : j = f
          · rw [q]; intro w; have := hz10.2.mpr w; omega
          · exact hI.2 j (by omega) h2⟩ (by omega)
  refine pe_iload_n d_T_beginningAhead_0 rfl ?_
  refine pe_iconst d_T_beginningAhead_1 ?_
  refine pe_isub d_T_beginningAhead_2 ?_
  refine pe_istore_n d_T_beginningAhead_3 ?_
  exact J4 _ ⟨by omega, fun j h1 h2 => by omega⟩
theorem x_T_lineBeginning {σ : pe_H} {p : Int} (hB : pe_B σ) (hp : 0 ≤ p ∧ p ≤ σ 3 1) (hl : 0 ≤ σ 3 1 ∧ σ 3 1 ≤ 200) : pe_M m_T_lineBeginning [pe_r 3, pe_i p] σ (pe_qp σ (fun z => (0 ≤ z ∧ z ≤ p) ∧ (z = 0 ∨ σ 4 (z - 1) = 10) ∧ ∀ j, z ≤ j → j < p → σ 4 j ≠ 10)) := by
  refine pe_in0 (lv := [some (pe_r 3), some (pe_i p), none]) ?_
  have hB0 := hB
  have J2 : ∀ f : Int, ((0 ≤ f ∧ f ≤ p) ∧ ∀ j, f ≤ j → j < p → σ 4 j ≠ 10) → pe_G m_T_lineBeginning 2 [some (pe_r 3), some (pe_i p), some (pe_i f)] [] σ (pe_qp σ (fun z => (0 ≤ z ∧ z ≤ p) ∧ (z = 0 ∨ σ 4 (z - 1) = 10) ∧ ∀ j, z ≤ j → j < p → σ 4 j ≠ 10)) := by
    refine pe_loop (fun f : Int => (f + 5).toNat) _ _ ?_
    intro f hI ih
    refine pe_iload_n d_T_lineBeginning_2 rfl ?_
    refine pe_if_le (t := 24) d_T_lineBeginning_3 (by first | exact hB _ _ | exact hB0 _ _ | exact hBt _ _ | exact ⟨by omega, by omega⟩) (fun h3 => ?_) (fun h3 => ?_)
    · skip
      refine pe_iload_n d_T_lineBeginning_24 rfl ?_
      refine pe_ri d_T_lineBeginning_25 ?_
      exact ⟨rfl, by omega, by omega, hI.2⟩
    · skip
      refine pe_aload_n d_T_lineBeginning_6 rfl ?_
      refine pe_iload_n d_T_lineBeginning_7 rfl ?_
      refine pe_iconst d_T_lineBeginning_8 ?_
      refine pe_isub d_T_lineBeginning_9 ?_
      refine pe_v1p d_T_lineBeginning_10 c_T_25 i_T_codeAt s_T_codeAt rfl rfl (t_T_codeAt hB (by first | exact hB _ _ | exact hB0 _ _ | exact hBt _ _ | exact ⟨by omega, by omega⟩) (by omega)) (fun z10 hz10 => ?_)
      have hR10 : pe_R z10 := by rw [hz10]; split <;> first | exact hB _ _ | exact ⟨by omega, by omega⟩
      rw [if_pos (by omega)] at hz10
      refine pe_bipush d_T_lineBeginning_13 ?_
      refine pe_icmp_eq (t := 24) d_T_lineBeginning_15 (by first | exact hB _ _ | exact hB0 _ _ | exact hBt _ _ | exact ⟨by omega, by omega⟩) (by first | exact hB _ _ | exact hB0 _ _ | exact hBt _ _ | exact ⟨by omega, by omega⟩) (fun h15 => ?_) (fun h15 => ?_)
      · skip
        refine pe_iload_n d_T_lineBeginning_24 rfl ?_
        refine pe_ri d_T_lineBeginning_25 ?_
        exact ⟨rfl, by omega, by omega, hI.2⟩
      · skip
        refine pe_iinc d_T_lineBeginning_18 rfl ?_
        refine pe_goto (t := 2) d_T_lineBeginning_21 ?_
        exact ih _ ⟨by omega, fun j h1 h2 => by
          by_cases q : j = f - 1
          · rw [q]; omega
          · exact hI.2 j (by omega) h2⟩ (by omega)
  refine pe_iload_n d_T_lineBeginning_0 rfl ?_
  refine pe_istore_n d_T_lineBeginning_1 ?_
  exact J2 _ ⟨by omega, fun j h1 h2 => by omega⟩
theorem x_T_lineEnd {σ : pe_H} {p : Int} (hB : pe_B σ) (hp : 0 ≤ p ∧ p ≤ σ 3 1) (hl : 0 ≤ σ 3 1 ∧ σ 3 1 ≤ 200) : pe_M m_T_lineEnd [pe_r 3, pe_i p] σ (pe_qp σ (fun z => (p ≤ z ∧ z ≤ σ 3 1) ∧ (z = σ 3 1 ∨ σ 4 z = 10) ∧ ∀ j, p ≤ j → j < z → σ 4 j ≠ 10)) := by
  refine pe_in0 (lv := [some (pe_r 3), some (pe_i p), none]) ?_
  have hB0 := hB
  have J2 : ∀ f : Int, ((p ≤ f ∧ f ≤ σ 3 1) ∧ ∀ j, p ≤ j → j < f → σ 4 j ≠ 10) → pe_G m_T_lineEnd 2 [some (pe_r 3), some (pe_i p), some (pe_i f)] [] σ (pe_qp σ (fun z => (p ≤ z ∧ z ≤ σ 3 1) ∧ (z = σ 3 1 ∨ σ 4 z = 10) ∧ ∀ j, p ≤ j → j < z → σ 4 j ≠ 10)) := by
    refine pe_loop (fun f : Int => (500 - f).toNat) _ _ ?_
    intro f hI ih
    refine pe_iload_n d_T_lineEnd_2 rfl ?_
    refine pe_aload_n d_T_lineEnd_3 rfl ?_
    refine pe_geti f_T_15 d_T_lineEnd_4 rfl rfl 1 rfl ?_
    refine pe_icmp_ge (t := 26) d_T_lineEnd_7 (by first | exact hB _ _ | exact hB0 _ _ | exact hBt _ _ | exact ⟨by omega, by omega⟩) (by first | exact hB _ _ | exact hB0 _ _ | exact hBt _ _ | exact ⟨by omega, by omega⟩) (fun h7 => ?_) (fun h7 => ?_)
    · skip
      refine pe_iload_n d_T_lineEnd_26 rfl ?_
      refine pe_ri d_T_lineEnd_27 ?_
      exact ⟨rfl, by omega, by omega, hI.2⟩
    · skip
      refine pe_aload_n d_T_lineEnd_10 rfl ?_
      refine pe_iload_n d_T_lineEnd_11 rfl ?_
      refine pe_v1p d_T_lineEnd_12 c_T_25 i_T_codeAt s_T_codeAt rfl rfl (t_T_codeAt hB (by first | exact hB _ _ | exact hB0 _ _ | exact hBt _ _ | exact ⟨by omega, by omega⟩) (by omega)) (fun z12 hz12 => ?_)
      have hR12 : pe_R z12 := by rw [hz12]; split <;> first | exact hB _ _ | exact ⟨by omega, by omega⟩
      rw [if_pos (by omega)] at hz12
      refine pe_bipush d_T_lineEnd_15 ?_
      refine pe_icmp_eq (t := 26) d_T_lineEnd_17 (by first | exact hB _ _ | exact hB0 _ _ | exact hBt _ _ | exact ⟨by omega, by omega⟩) (by first | exact hB _ _ | exact hB0 _ _ | exact hBt _ _ | exact ⟨by omega, by omega⟩) (fun h17 => ?_) (fun h17 => ?_)
      · skip
        refine pe_iload_n d_T_lineEnd_26 rfl ?_
        refine pe_ri d_T_lineEnd_27 ?_
        exact ⟨rfl, by omega, by omega, hI.2⟩
      · skip
        refine pe_iinc d_T_lineEnd_20 rfl ?_
        refine pe_goto (t := 2) d_T_lineEnd_23 ?_
        exact ih _ ⟨by omega, fun j h1 h2 => by
          by_cases q : j = f
          · rw [q]; omega
          · exact hI.2 j h1 (by omega)⟩ (by omega)
  refine pe_iload_n d_T_lineEnd_0 rfl ?_
  refine pe_istore_n d_T_lineEnd_1 ?_
  exact J2 _ ⟨by omega, fun j h1 h2 => by omega⟩
