/-! p1: exact contracts of the reference's text -/
def pe_rb (m σ : pe_H) : Prop := ((σ 29 1 = m 0 0 ∧ σ 29 3 = m 2 0 ∧ σ 29 5 = m 3 0 ∧ σ 29 6 = m 4 0) ∧ σ 29 7 = m 5 0 ∧ σ 29 19 = m 6 0 ∧ σ 29 21 = m 7 0) ∧ (∀ j, 0 ≤ j → j < m 0 0 → σ 30 j = m 8 j) ∧ (∀ j, 0 ≤ j → j < m 3 0 → σ 31 j = m 9 j) ∧ ∀ i, 0 ≤ i → i < m 5 0 → (σ 32 i = m 10 i ∧ σ 33 i = m 11 i ∧ σ 34 i = m 12 i ∧ σ 35 i = m 13 i) ∧ ∀ j, 0 ≤ j → j < m 12 i → σ 36 (i * 200 + j) = m 14 (i * 200 + j)
theorem pe_ra_of {m σ : pe_H} (h : pe_rb m σ) (e : σ 29 2 = m 1 0) : pe_ra m σ := by
  obtain ⟨⟨⟨a1, a3, a4, a5⟩, a7, a8, a9⟩, A⟩ := h
  exact ⟨⟨⟨a1, e, a3, a4, a5⟩, a7, a8, a9⟩, A⟩
theorem pe_rb_of {m σ : pe_H} (h : pe_ra m σ) : pe_rb m σ := by
  obtain ⟨⟨⟨a1, a2, a3, a4, a5⟩, a7, a8, a9⟩, A⟩ := h
  exact ⟨⟨⟨a1, a3, a4, a5⟩, a7, a8, a9⟩, A⟩
theorem pe_ra_B {m σ : pe_H} (h : pe_rb m σ) (h0 : 0 ≤ m 1 0) (hz : m 1 0 ≤ σ 29 2 ∧ pe_bg (σ 30) (m 0 0) (σ 29 2) ∧ ∀ j, m 1 0 ≤ j → j < σ 29 2 → ¬ pe_bg (σ 30) (m 0 0) j) : pe_ra (pe_eB m) σ := by
  have e := pe_bf_of (t' := m 8) h.2.1 h0 hz.1 hz.2.1 hz.2.2
  obtain ⟨⟨⟨a1, a3, a4, a5⟩, a7, a8, a9⟩, A⟩ := h
  exact ⟨⟨⟨a1, e, a3, a4, a5⟩, a7, a8, a9⟩, A⟩
theorem pe_ra_Bs {m σ : pe_H} (h : pe_ra m σ) (h0 : 0 ≤ m 1 0) (hg : pe_bg (m 8) (m 0 0) (m 1 0)) : pe_ra (pe_eB m) σ := by
  obtain ⟨⟨⟨a1, a2, a3, a4, a5⟩, a7, a8, a9⟩, A⟩ := h
  exact ⟨⟨⟨a1, a2.trans (pe_bf_self h0 hg), a3, a4, a5⟩, a7, a8, a9⟩, A⟩
/-- a change noted -/
def pe_mn (a b : pe_H) (p i o : Int) : Prop := (b 29 3 = -1 ∧ b 29 7 = a 29 7 + 1) ∧ (b 32 (a 29 7) = p ∧ b 33 (a 29 7) = i ∧ b 34 (a 29 7) = o ∧ b 35 (a 29 7) = a 29 2) ∧ ∀ q, q ≠ a 29 7 → b 32 q = a 32 q ∧ b 33 q = a 33 q ∧ b 34 q = a 34 q ∧ b 35 q = a 35 q
theorem x_M_open {σ : pe_H} {p n : Int} (hB : pe_B σ) (hl : 0 ≤ σ 29 1 ∧ σ 29 1 ≤ 200) (hp : 0 ≤ p ∧ p ≤ σ 29 1) (hn : 0 ≤ n ∧ σ 29 1 + n ≤ 200) : pe_M m_M_open [pe_r 29, pe_i p, pe_i n] σ (pe_qv (fun σ' => pe_B σ' ∧ (∀ b, b ∉ [29, 30] → σ' b = σ b) ∧ (∀ j, j ∉ ([1] : List Int) → σ' 29 j = σ 29 j) ∧ (σ' 29 1 = σ 29 1 + n ∧ (∀ j, j < p → σ' 30 j = σ 30 j) ∧ ∀ j, p + n ≤ j → j < σ 29 1 + n → σ' 30 j = σ 30 (j - n)))) := by
  refine pe_in0 (lv := [some (pe_r 29), some (pe_i p), some (pe_i n), none]) ?_
  have hB0 := hB
  have J7 : ∀ x : Int × pe_H, (pe_B x.2 ∧ (∀ b, b ∉ [30] → x.2 b = σ b) ∧ (∀ j, j ≤ x.1 + n → x.2 30 j = σ 30 j) ∧ (∀ j, x.1 + n < j → j < σ 29 1 + n → x.2 30 j = σ 30 (j - n)) ∧ (p - 1 ≤ x.1 ∧ x.1 < σ 29 1)) → pe_G m_M_open 7 [some (pe_r 29), some (pe_i p), some (pe_i n), some (pe_i x.1)] [] x.2 (pe_qv (fun σ' => pe_B σ' ∧ (∀ b, b ∉ [29, 30] → σ' b = σ b) ∧ (∀ j, j ∉ ([1] : List Int) → σ' 29 j = σ 29 j) ∧ (σ' 29 1 = σ 29 1 + n ∧ (∀ j, j < p → σ' 30 j = σ 30 j) ∧ ∀ j, p + n ≤ j → j < σ 29 1 + n → σ' 30 j = σ 30 (j - n)))) := by
    refine pe_loop (fun x : Int × pe_H => (x.1 + 10).toNat) _ _ ?_
    intro x hI ih
    obtain ⟨k, τ⟩ := x
    dsimp only at hI ⊢
    obtain ⟨hB, hfr, hX⟩ := hI
    have v_29_1 : τ 29 1 = σ 29 1 := congrFun (hfr 29 (by decide)) 1
    obtain ⟨N1, N2, hX⟩ := hX
    have hBt := hB
    refine pe_iload_n d_M_open_7 rfl ?_
    refine pe_iload_n d_M_open_8 rfl ?_
    refine pe_icmp_lt (t := 32) d_M_open_9 (by first | exact hB _ _ | exact hB0 _ _ | exact hBt _ _ | exact ⟨by omega, by omega⟩) (by first | exact hB _ _ | exact hB0 _ _ | exact hBt _ _ | exact ⟨by omega, by omega⟩) (fun h9 => ?_) (fun h9 => ?_)
    · skip
      refine pe_aload_n d_M_open_32 rfl ?_
      refine pe_dup d_M_open_33 ?_
      refine pe_geti f_M_87 d_M_open_34 rfl rfl 1 rfl ?_
      refine pe_iload_n d_M_open_37 rfl ?_
      refine pe_iadd d_M_open_38 ?_
      refine pe_putiT f_M_87 g_11_1 d_M_open_39 rfl rfl 1 rfl hB (by first | exact hB _ _ | exact hB0 _ _ | exact hBt _ _ | exact ⟨by omega, by omega⟩) (fun σ39 hB e39 o39 f39 => ?_)
      try have u39_0 : σ39 29 1 = τ 29 1 := by first | exact o39 1 (by decide) | exact congrFun (f39 29 (by decide)) 1
      try have u39_1 : σ39 29 2 = τ 29 2 := by first | exact o39 2 (by decide) | exact congrFun (f39 29 (by decide)) 2
      try have u39_2 : σ39 29 3 = τ 29 3 := by first | exact o39 3 (by decide) | exact congrFun (f39 29 (by decide)) 3
      refine pe_rv d_M_open_42 ?_
      exact ⟨hB, (fun b hb => (f39 b (by simp at hb ⊢; try omega)).trans (hfr b (by simp at hb ⊢; try omega))), (fun j hj => (o39 j (by simp at hj ⊢; try omega)).trans (congrFun (hfr 29 (by decide)) j)), by omega, fun j a => by rw [f39 30 (by decide)]; exact N1 j (by omega), fun j a b => by rw [f39 30 (by decide)]; exact N2 j (by omega) b⟩
    · skip
      refine pe_aload_n d_M_open_12 rfl ?_
      refine pe_getr f_M_7 d_M_open_13 rfl rfl ?_
      refine pe_iload_n d_M_open_16 rfl ?_
      refine pe_iload_n d_M_open_17 rfl ?_
      refine pe_iadd d_M_open_18 ?_
      refine pe_aload_n d_M_open_19 rfl ?_
      refine pe_getr f_M_7 d_M_open_20 rfl rfl ?_
      refine pe_iload_n d_M_open_23 rfl ?_
      refine pe_iald d_M_open_24 rfl (by omega) (by omega) ?_
      refine pe_iastT d_M_open_25 rfl (by omega) (by omega) hB (by first | exact hB _ _ | exact hB0 _ _ | exact hBt _ _ | exact ⟨by omega, by omega⟩) (fun σ25 hB e25 o25 f25 => ?_)
      try have u25_0 : σ25 29 1 = τ 29 1 := by first | exact o25 1 (by decide) | exact congrFun (f25 29 (by decide)) 1
      try have u25_1 : σ25 29 2 = τ 29 2 := by first | exact o25 2 (by decide) | exact congrFun (f25 29 (by decide)) 2
      try have u25_2 : σ25 29 3 = τ 29 3 := by first | exact o25 3 (by decide) | exact congrFun (f25 29 (by decide)) 3
      refine pe_iinc d_M_open_26 rfl ?_
      refine pe_goto (t := 7) d_M_open_29 ?_
      exact ih (_, _) ⟨hB, (fun b hb => (f25 b (by simp at hb ⊢; try omega)).trans (hfr b (by simp at hb ⊢; try omega))), fun j a => (o25 j (by (try dsimp only at *); omega)).trans (N1 j (by (try dsimp only at *); omega)), fun j a b => by
          (try dsimp only at *)
          by_cases e : j = k + n
          · rw [e, e25, N1 k (by omega)]; exact congrArg (σ 30) (by omega)
          · rw [o25 j e]; exact N2 j (by omega) b, by (try dsimp only); omega⟩ (by (try dsimp only); omega)
  refine pe_aload_n d_M_open_0 rfl ?_
  refine pe_geti f_M_87 d_M_open_1 rfl rfl 1 rfl ?_
  refine pe_iconst d_M_open_4 ?_
  refine pe_isub d_M_open_5 ?_
  refine pe_istore_n d_M_open_6 ?_
  exact J7 (_, _) ⟨hB, (fun b hb => rfl), fun _ _ => rfl, fun j a b => absurd b (by (try dsimp only at *); omega), by (try dsimp only); omega⟩
theorem x_M_close {σ : pe_H} {p n : Int} (hB : pe_B σ) (hl : 0 ≤ σ 29 1 ∧ σ 29 1 ≤ 200) (hp : 0 ≤ p ∧ 0 ≤ n ∧ p + n ≤ σ 29 1) : pe_M m_M_close [pe_r 29, pe_i p, pe_i n] σ (pe_qv (fun σ' => pe_B σ' ∧ (∀ b, b ∉ [29, 30] → σ' b = σ b) ∧ (∀ j, j ∉ ([1] : List Int) → σ' 29 j = σ 29 j) ∧ (σ' 29 1 = σ 29 1 - n ∧ (∀ j, j < p → σ' 30 j = σ 30 j) ∧ ∀ j, p ≤ j → j < σ 29 1 - n → σ' 30 j = σ 30 (j + n)))) := by
  refine pe_in0 (lv := [some (pe_r 29), some (pe_i p), some (pe_i n), none]) ?_
  have hB0 := hB
  have J2 : ∀ x : Int × pe_H, (pe_B x.2 ∧ (∀ b, b ∉ [30] → x.2 b = σ b) ∧ ((∀ j, j < p → x.2 30 j = σ 30 j) ∧ (∀ j, p ≤ j → j < x.1 → x.2 30 j = σ 30 (j + n)) ∧ (∀ j, x.1 ≤ j → x.2 30 j = σ 30 j)) ∧ (p ≤ x.1 ∧ x.1 + n ≤ σ 29 1)) → pe_G m_M_close 2 [some (pe_r 29), some (pe_i p), some (pe_i n), some (pe_i x.1)] [] x.2 (pe_qv (fun σ' => pe_B σ' ∧ (∀ b, b ∉ [29, 30] → σ' b = σ b) ∧ (∀ j, j ∉ ([1] : List Int) → σ' 29 j = σ 29 j) ∧ (σ' 29 1 = σ 29 1 - n ∧ (∀ j, j < p → σ' 30 j = σ 30 j) ∧ ∀ j, p ≤ j → j < σ 29 1 - n → σ' 30 j = σ 30 (j + n)))) := by
    refine pe_loop (fun x : Int × pe_H => (300 - x.1).toNat) _ _ ?_
    intro x hI ih
    obtain ⟨k, τ⟩ := x
    dsimp only at hI ⊢
    obtain ⟨hB, hfr, hX⟩ := hI
    have v_29_1 : τ 29 1 = σ 29 1 := congrFun (hfr 29 (by decide)) 1
    obtain ⟨⟨N1, N2, N3⟩, hX⟩ := hX
    have hBt := hB
    refine pe_iload_n d_M_close_2 rfl ?_
    refine pe_iload_n d_M_close_3 rfl ?_
    refine pe_iadd d_M_close_4 ?_
    refine pe_aload_n d_M_close_5 rfl ?_
    refine pe_geti f_M_87 d_M_close_6 rfl rfl 1 rfl ?_
    refine pe_icmp_ge (t := 32) d_M_close_9 (by first | exact hB _ _ | exact hB0 _ _ | exact hBt _ _ | exact ⟨by omega, by omega⟩) (by first | exact hB _ _ | exact hB0 _ _ | exact hBt _ _ | exact ⟨by omega, by omega⟩) (fun h9 => ?_) (fun h9 => ?_)
    · skip
      refine pe_aload_n d_M_close_32 rfl ?_
      refine pe_dup d_M_close_33 ?_
      refine pe_geti f_M_87 d_M_close_34 rfl rfl 1 rfl ?_
      refine pe_iload_n d_M_close_37 rfl ?_
      refine pe_isub d_M_close_38 ?_
      refine pe_putiT f_M_87 g_11_1 d_M_close_39 rfl rfl 1 rfl hB (by first | exact hB _ _ | exact hB0 _ _ | exact hBt _ _ | exact ⟨by omega, by omega⟩) (fun σ39 hB e39 o39 f39 => ?_)
      try have u39_0 : σ39 29 1 = τ 29 1 := by first | exact o39 1 (by decide) | exact congrFun (f39 29 (by decide)) 1
      try have u39_1 : σ39 29 2 = τ 29 2 := by first | exact o39 2 (by decide) | exact congrFun (f39 29 (by decide)) 2
      try have u39_2 : σ39 29 3 = τ 29 3 := by first | exact o39 3 (by decide) | exact congrFun (f39 29 (by decide)) 3
      refine pe_rv d_M_close_42 ?_
      exact ⟨hB, (fun b hb => (f39 b (by simp at hb ⊢; try omega)).trans (hfr b (by simp at hb ⊢; try omega))), (fun j hj => (o39 j (by simp at hj ⊢; try omega)).trans (congrFun (hfr 29 (by decide)) j)), by omega, fun j a => by rw [f39 30 (by decide)]; exact N1 j a, fun j a b => by rw [f39 30 (by decide)]; exact N2 j a (by omega)⟩
    · skip
      refine pe_aload_n d_M_close_12 rfl ?_
      refine pe_getr f_M_7 d_M_close_13 rfl rfl ?_
      refine pe_iload_n d_M_close_16 rfl ?_
      refine pe_aload_n d_M_close_17 rfl ?_
      refine pe_getr f_M_7 d_M_close_18 rfl rfl ?_
      refine pe_iload_n d_M_close_21 rfl ?_
      refine pe_iload_n d_M_close_22 rfl ?_
      refine pe_iadd d_M_close_23 ?_
      refine pe_iald d_M_close_24 rfl (by omega) (by omega) ?_
      refine pe_iastT d_M_close_25 rfl (by omega) (by omega) hB (by first | exact hB _ _ | exact hB0 _ _ | exact hBt _ _ | exact ⟨by omega, by omega⟩) (fun σ25 hB e25 o25 f25 => ?_)
      try have u25_0 : σ25 29 1 = τ 29 1 := by first | exact o25 1 (by decide) | exact congrFun (f25 29 (by decide)) 1
      try have u25_1 : σ25 29 2 = τ 29 2 := by first | exact o25 2 (by decide) | exact congrFun (f25 29 (by decide)) 2
      try have u25_2 : σ25 29 3 = τ 29 3 := by first | exact o25 3 (by decide) | exact congrFun (f25 29 (by decide)) 3
      refine pe_iinc d_M_close_26 rfl ?_
      refine pe_goto (t := 2) d_M_close_29 ?_
      exact ih (_, _) ⟨hB, (fun b hb => (f25 b (by simp at hb ⊢; try omega)).trans (hfr b (by simp at hb ⊢; try omega))), ⟨fun j a => (o25 j (by (try dsimp only at *); omega)).trans (N1 j a), fun j a b => by
          (try dsimp only at *)
          by_cases e : j = k
          · rw [e, e25, N3 (k + n) (by omega)]
          · rw [o25 j e]; exact N2 j a (by omega), fun j a => (o25 j (by (try dsimp only at *); omega)).trans (N3 j (by (try dsimp only at *); omega))⟩, by (try dsimp only); omega⟩ (by (try dsimp only); omega)
  refine pe_iload_n d_M_close_0 rfl ?_
  refine pe_istore_n d_M_close_1 ?_
  exact J2 (_, _) ⟨hB, (fun b hb => rfl), ⟨fun _ _ => rfl, fun j a b => absurd b (by (try dsimp only at *); omega), fun _ _ => rfl⟩, by (try dsimp only); omega⟩
theorem x_M_settle {σ : pe_H} {p : Int} (hB : pe_B σ) (hl : 0 ≤ σ 29 1 ∧ σ 29 1 ≤ 200) (hp : 0 ≤ p ∧ p ≤ σ 29 1) : pe_M m_M_settle [pe_r 29, pe_i p] σ (pe_qv (fun σ' => pe_B σ' ∧ (∀ b, b ∉ [29] → σ' b = σ b) ∧ (∀ j, j ∉ ([2] : List Int) → σ' 29 j = σ 29 j) ∧ ((p ≤ σ' 29 2 ∧ σ' 29 2 ≤ σ 29 1) ∧ pe_bg (σ 30) (σ 29 1) (σ' 29 2) ∧ ∀ j, p ≤ j → j < σ' 29 2 → ¬ pe_bg (σ 30) (σ 29 1) j))) := by
  refine pe_in0 (lv := [some (pe_r 29), some (pe_i p)]) ?_
  have hB0 := hB
  have J5 : ∀ τ : pe_H, (pe_B τ ∧ (∀ b, b ∉ [29] → τ b = σ b) ∧ (∀ j, j ∉ ([2] : List Int) → τ 29 j = σ 29 j) ∧ (p ≤ τ 29 2 ∧ τ 29 2 ≤ σ 29 1) ∧ ∀ j, p ≤ j → j < τ 29 2 → ¬ pe_bg (σ 30) (σ 29 1) j) → pe_G m_M_settle 5 [some (pe_r 29), some (pe_i p)] [] τ (pe_qv (fun σ' => pe_B σ' ∧ (∀ b, b ∉ [29] → σ' b = σ b) ∧ (∀ j, j ∉ ([2] : List Int) → σ' 29 j = σ 29 j) ∧ ((p ≤ σ' 29 2 ∧ σ' 29 2 ≤ σ 29 1) ∧ pe_bg (σ 30) (σ 29 1) (σ' 29 2) ∧ ∀ j, p ≤ j → j < σ' 29 2 → ¬ pe_bg (σ 30) (σ 29 1) j))) := by
    refine pe_loop (fun τ : pe_H => (300 - τ 29 2).toNat) _ _ ?_
    intro τ hI ih
    obtain ⟨hB, hfr, hor, hX, hN⟩ := hI
    have w1 : τ 29 1 = σ 29 1 := hor 1 (by decide)
    have hBt := hB
    refine pe_aload_n d_M_settle_5 rfl ?_
    refine pe_aload_n d_M_settle_6 rfl ?_
    refine pe_geti f_M_117 d_M_settle_7 rfl rfl 2 rfl ?_
    refine pe_v1p d_M_settle_10 c_M_94 i_M_begins s_M_begins rfl rfl (t_M_begins hB (by omega) (by omega)) (fun z10 hz10 => ?_)
    refine pe_if_ne (t := 29) d_M_settle_13 (by first | exact hB _ _ | exact hB0 _ _ | exact hBt _ _ | exact ⟨by omega, by omega⟩) (fun h13 => ?_) (fun h13 => ?_)
    · skip
      have yb : pe_bg (τ 30) (τ 29 1) (τ 29 2) := hz10.2.mp (by omega)
      refine pe_rv d_M_settle_29 ?_
      exact ⟨hB, (fun b hb => hfr b hb), (fun j hj => hor j hj), hX, by rw [hfr 30 (by decide), w1] at yb; exact yb, hN⟩
    · skip
      have nb : ¬ pe_bg (τ 30) (τ 29 1) (τ 29 2) := fun h => by have := hz10.2.mpr h; omega
      have n1 : ¬ τ 29 1 ≤ τ 29 2 := fun h => nb (Or.inl h)
      refine pe_aload_n d_M_settle_16 rfl ?_
      refine pe_dup d_M_settle_17 ?_
      refine pe_geti f_M_117 d_M_settle_18 rfl rfl 2 rfl ?_
      refine pe_iconst d_M_settle_21 ?_
      refine pe_iadd d_M_settle_22 ?_
      refine pe_putiT f_M_117 g_11_2 d_M_settle_23 rfl rfl 2 rfl hB (by first | exact hB _ _ | exact hB0 _ _ | exact hBt _ _ | exact ⟨by omega, by omega⟩) (fun σ23 hB e23 o23 f23 => ?_)
      try have u23_0 : σ23 29 1 = τ 29 1 := by first | exact o23 1 (by decide) | exact congrFun (f23 29 (by decide)) 1
      try have u23_1 : σ23 29 2 = τ 29 2 := by first | exact o23 2 (by decide) | exact congrFun (f23 29 (by decide)) 2
      try have u23_2 : σ23 29 3 = τ 29 3 := by first | exact o23 3 (by decide) | exact congrFun (f23 29 (by decide)) 3
      refine pe_goto (t := 5) d_M_settle_26 ?_
      exact ih _ ⟨hB, (fun b hb => (f23 b (by simp at hb ⊢; try omega)).trans (hfr b hb)), (fun j hj => (o23 j (by simp at hj ⊢; try omega)).trans (hor j hj)), by omega, fun j a b => by
        by_cases e : j = τ 29 2
        · rw [e, ← w1, ← hfr 30 (by decide)]; exact nb
        · exact hN j a (by omega)⟩ (by omega)
  refine pe_aload_n d_M_settle_0 rfl ?_
  refine pe_iload_n d_M_settle_1 rfl ?_
  refine pe_putiT f_M_117 g_11_2 d_M_settle_2 rfl rfl 2 rfl hB (by first | exact hB _ _ | exact hB0 _ _ | exact hBt _ _ | exact ⟨by omega, by omega⟩) (fun σ2 hB e2 o2 f2 => ?_)
  try have u2_0 : σ2 29 1 = σ 29 1 := by first | exact o2 1 (by decide) | exact congrFun (f2 29 (by decide)) 1
  try have u2_1 : σ2 29 2 = σ 29 2 := by first | exact o2 2 (by decide) | exact congrFun (f2 29 (by decide)) 2
  try have u2_2 : σ2 29 3 = σ 29 3 := by first | exact o2 3 (by decide) | exact congrFun (f2 29 (by decide)) 3
  exact J5 _ ⟨hB, (fun b hb => (f2 b (by simp at hb ⊢; try omega)).trans (rfl)), (fun j hj => (o2 j (by simp at hj ⊢; try omega)).trans (rfl)), by omega, fun j a b => absurd b (by omega)⟩
theorem x_M_before {σ : pe_H} {p : Int} (hB : pe_B σ) (hl : 0 ≤ σ 29 1 ∧ σ 29 1 ≤ 200) (hp : 0 < p ∧ p ≤ σ 29 1) : pe_M m_M_before [pe_r 29, pe_i p] σ (pe_qp σ (fun z => (0 ≤ z ∧ z < p) ∧ pe_bg (σ 30) (σ 29 1) z ∧ ∀ j, z < j → j < p → ¬ pe_bg (σ 30) (σ 29 1) j)) := by
  refine pe_in0 (lv := [some (pe_r 29), some (pe_i p), none]) ?_
  have hB0 := hB
  have J4 : ∀ q : Int, ((0 ≤ q ∧ q < p) ∧ ∀ j, q < j → j < p → ¬ pe_bg (σ 30) (σ 29 1) j) → pe_G m_M_before 4 [some (pe_r 29), some (pe_i p), some (pe_i q)] [] σ (pe_qp σ (fun z => (0 ≤ z ∧ z < p) ∧ pe_bg (σ 30) (σ 29 1) z ∧ ∀ j, z < j → j < p → ¬ pe_bg (σ 30) (σ 29 1) j)) := by
    refine pe_loop (fun q : Int => (q + 10).toNat) _ _ ?_
    intro q hI ih
    refine pe_aload_n d_M_before_4 rfl ?_
    refine pe_iload_n d_M_before_5 rfl ?_
    refine pe_v1p d_M_before_6 c_M_94 i_M_begins s_M_begins rfl rfl (t_M_begins hB (by omega) (by omega)) (fun z6 hz6 => ?_)
    refine pe_if_ne (t := 18) d_M_before_9 (by first | exact hB _ _ | exact hB0 _ _ | exact hBt _ _ | exact ⟨by omega, by omega⟩) (fun h9 => ?_) (fun h9 => ?_)
    · skip
      have yb : pe_bg (σ 30) (σ 29 1) q := hz6.2.mp (by omega)
      refine pe_iload_n d_M_before_18 rfl ?_
      refine pe_ri d_M_before_19 ?_
      exact ⟨rfl, hI.1, yb, hI.2⟩
    · skip
      have nb : ¬ pe_bg (σ 30) (σ 29 1) q := fun h => by have := hz6.2.mpr h; omega
      have n1 : ¬ q < 1 := fun h => nb (Or.inr (Or.inr (Or.inl h)))
      refine pe_iinc d_M_before_12 rfl ?_
      refine pe_goto (t := 4) d_M_before_15 ?_
      exact ih _ ⟨by omega, fun j h1 h2 => (Classical.em (j = q)).elim (fun e => e ▸ nb) (fun e => hI.2 j (by omega) h2)⟩ (by omega)
  refine pe_iload_n d_M_before_0 rfl ?_
  refine pe_iconst d_M_before_1 ?_
  refine pe_isub d_M_before_2 ?_
  refine pe_istore_n d_M_before_3 ?_
  exact J4 _ ⟨by omega, fun j h1 h2 => absurd h2 (by omega)⟩
theorem x_M_lineBegin {σ : pe_H} (hB : pe_B σ) (hl : 0 ≤ σ 29 1 ∧ σ 29 1 ≤ 200) (hp : 0 ≤ σ 29 2 ∧ σ 29 2 ≤ σ 29 1) : pe_M m_M_lineBegin [pe_r 29] σ (pe_qp σ (fun z => (0 ≤ z ∧ z ≤ σ 29 2) ∧ (z = 0 ∨ σ 30 (z - 1) = 10) ∧ ∀ j, z ≤ j → j < σ 29 2 → σ 30 j ≠ 10)) := by
  refine pe_in0 (lv := [some (pe_r 29), none]) ?_
  have hB0 := hB
  have J5 : ∀ q : Int, ((0 ≤ q ∧ q ≤ σ 29 2) ∧ ∀ j, q ≤ j → j < σ 29 2 → σ 30 j ≠ 10) → pe_G m_M_lineBegin 5 [some (pe_r 29), some (pe_i q)] [] σ (pe_qp σ (fun z => (0 ≤ z ∧ z ≤ σ 29 2) ∧ (z = 0 ∨ σ 30 (z - 1) = 10) ∧ ∀ j, z ≤ j → j < σ 29 2 → σ 30 j ≠ 10)) := by
    refine pe_loop (fun q : Int => (q + 10).toNat) _ _ ?_
    intro q hI ih
    refine pe_iload_n d_M_lineBegin_5 rfl ?_
    refine pe_if_le (t := 28) d_M_lineBegin_6 (by first | exact hB _ _ | exact hB0 _ _ | exact hBt _ _ | exact ⟨by omega, by omega⟩) (fun h6 => ?_) (fun h6 => ?_)
    · skip
      refine pe_iload_n d_M_lineBegin_28 rfl ?_
      refine pe_ri d_M_lineBegin_29 ?_
      exact ⟨rfl, hI.1, by omega, hI.2⟩
    · skip
      refine pe_aload_n d_M_lineBegin_9 rfl ?_
      refine pe_getr f_M_7 d_M_lineBegin_10 rfl rfl ?_
      refine pe_iload_n d_M_lineBegin_13 rfl ?_
      refine pe_iconst d_M_lineBegin_14 ?_
      refine pe_isub d_M_lineBegin_15 ?_
      refine pe_iald d_M_lineBegin_16 rfl (by omega) (by omega) ?_
      refine pe_bipush d_M_lineBegin_17 ?_
      refine pe_icmp_eq (t := 28) d_M_lineBegin_19 (by first | exact hB _ _ | exact hB0 _ _ | exact hBt _ _ | exact ⟨by omega, by omega⟩) (by first | exact hB _ _ | exact hB0 _ _ | exact hBt _ _ | exact ⟨by omega, by omega⟩) (fun h19 => ?_) (fun h19 => ?_)
      · skip
        refine pe_iload_n d_M_lineBegin_28 rfl ?_
        refine pe_ri d_M_lineBegin_29 ?_
        exact ⟨rfl, hI.1, by omega, hI.2⟩
      · skip
        refine pe_iinc d_M_lineBegin_22 rfl ?_
        refine pe_goto (t := 5) d_M_lineBegin_25 ?_
        exact ih _ ⟨by omega, fun j h1 h2 => by
          by_cases e : j = q - 1
          · rw [e]; omega
          · exact hI.2 j (by omega) h2⟩ (by omega)
  refine pe_aload_n d_M_lineBegin_0 rfl ?_
  refine pe_geti f_M_117 d_M_lineBegin_1 rfl rfl 2 rfl ?_
  refine pe_istore_n d_M_lineBegin_4 ?_
  exact J5 _ ⟨by omega, fun j h1 h2 => absurd h2 (by omega)⟩
theorem x_M_lineEnd {σ : pe_H} (hB : pe_B σ) (hl : 0 ≤ σ 29 1 ∧ σ 29 1 ≤ 200) (hp : 0 ≤ σ 29 2 ∧ σ 29 2 ≤ σ 29 1) : pe_M m_M_lineEnd [pe_r 29] σ (pe_qp σ (fun z => (σ 29 2 ≤ z ∧ z ≤ σ 29 1) ∧ (z = σ 29 1 ∨ σ 30 z = 10) ∧ ∀ j, σ 29 2 ≤ j → j < z → σ 30 j ≠ 10)) := by
  refine pe_in0 (lv := [some (pe_r 29), none]) ?_
  have hB0 := hB
  have J5 : ∀ q : Int, ((σ 29 2 ≤ q ∧ q ≤ σ 29 1) ∧ ∀ j, σ 29 2 ≤ j → j < q → σ 30 j ≠ 10) → pe_G m_M_lineEnd 5 [some (pe_r 29), some (pe_i q)] [] σ (pe_qp σ (fun z => (σ 29 2 ≤ z ∧ z ≤ σ 29 1) ∧ (z = σ 29 1 ∨ σ 30 z = 10) ∧ ∀ j, σ 29 2 ≤ j → j < z → σ 30 j ≠ 10)) := by
    refine pe_loop (fun q : Int => (300 - q).toNat) _ _ ?_
    intro q hI ih
    refine pe_iload_n d_M_lineEnd_5 rfl ?_
    refine pe_aload_n d_M_lineEnd_6 rfl ?_
    refine pe_geti f_M_87 d_M_lineEnd_7 rfl rfl 1 rfl ?_
    refine pe_icmp_ge (t := 30) d_M_lineEnd_10 (by first | exact hB _ _ | exact hB0 _ _ | exact hBt _ _ | exact ⟨by omega, by omega⟩) (by first | exact hB _ _ | exact hB0 _ _ | exact hBt _ _ | exact ⟨by omega, by omega⟩) (fun h10 => ?_) (fun h10 => ?_)
    · skip
      refine pe_iload_n d_M_lineEnd_30 rfl ?_
      refine pe_ri d_M_lineEnd_31 ?_
      exact ⟨rfl, hI.1, by omega, hI.2⟩
    · skip
      refine pe_aload_n d_M_lineEnd_13 rfl ?_
      refine pe_getr f_M_7 d_M_lineEnd_14 rfl rfl ?_
      refine pe_iload_n d_M_lineEnd_17 rfl ?_
      refine pe_iald d_M_lineEnd_18 rfl (by omega) (by omega) ?_
      refine pe_bipush d_M_lineEnd_19 ?_
      refine pe_icmp_eq (t := 30) d_M_lineEnd_21 (by first | exact hB _ _ | exact hB0 _ _ | exact hBt _ _ | exact ⟨by omega, by omega⟩) (by first | exact hB _ _ | exact hB0 _ _ | exact hBt _ _ | exact ⟨by omega, by omega⟩) (fun h21 => ?_) (fun h21 => ?_)
      · skip
        refine pe_iload_n d_M_lineEnd_30 rfl ?_
        refine pe_ri d_M_lineEnd_31 ?_
        exact ⟨rfl, hI.1, by omega, hI.2⟩
      · skip
        refine pe_iinc d_M_lineEnd_24 rfl ?_
        refine pe_goto (t := 5) d_M_lineEnd_27 ?_
        exact ih _ ⟨by omega, fun j h1 h2 => by
          by_cases e : j = q
          · rw [e]; omega
          · exact hI.2 j h1 (by omega)⟩ (by omega)
  refine pe_aload_n d_M_lineEnd_0 rfl ?_
  refine pe_geti f_M_117 d_M_lineEnd_1 rfl rfl 2 rfl ?_
  refine pe_istore_n d_M_lineEnd_4 ?_
  exact J5 _ ⟨by omega, fun j h1 h2 => absurd h2 (by omega)⟩
theorem x_M_note {σ : pe_H} {p i o : Int} (hB : pe_B σ) (hl : 0 ≤ σ 29 1 ∧ σ 29 1 ≤ 200) (hcu : 0 ≤ σ 29 2 ∧ σ 29 2 ≤ σ 29 1) (hcg : 0 ≤ σ 29 7 ∧ σ 29 7 ≤ 11) (hp : 0 ≤ p ∧ 0 ≤ i ∧ i ≤ 200 ∧ 0 ≤ o ∧ p + o ≤ σ 29 1) : pe_M m_M_note [pe_r 29, pe_i p, pe_i i, pe_i o] σ (pe_qv (fun σ' => pe_B σ' ∧ (∀ b, b ∉ [29, 32, 33, 34, 35, 36] → σ' b = σ b) ∧ (∀ j, j ∉ ([3, 7] : List Int) → σ' 29 j = σ 29 j) ∧ (pe_mn σ σ' p i o ∧ (∀ j, 0 ≤ j → j < o → σ' 36 (σ 29 7 * 200 + j) = σ 30 (p + j)) ∧ ∀ j, j < σ 29 7 * 200 → σ' 36 j = σ 36 j))) := by
  refine pe_in0 (lv := [some (pe_r 29), some (pe_i p), some (pe_i i), some (pe_i o), none]) ?_
  have hB0 := hB
  have J59 : ∀ x : Int × pe_H, (pe_B x.2 ∧ (∀ b, b ∉ [29, 32, 33, 34, 35, 36] → x.2 b = σ b) ∧ x.2 29 = σ 29 ∧ ((x.2 32 (σ 29 7) = p ∧ x.2 33 (σ 29 7) = i ∧ x.2 34 (σ 29 7) = o ∧ x.2 35 (σ 29 7) = σ 29 2) ∧ (∀ q, q ≠ σ 29 7 → x.2 32 q = σ 32 q ∧ x.2 33 q = σ 33 q ∧ x.2 34 q = σ 34 q ∧ x.2 35 q = σ 35 q)) ∧ ((∀ j, 0 ≤ j → j < x.1 → x.2 36 (σ 29 7 * 200 + j) = σ 30 (p + j)) ∧ (∀ j, j < σ 29 7 * 200 → x.2 36 j = σ 36 j)) ∧ (0 ≤ x.1 ∧ (0 ≤ o → x.1 ≤ o))) → pe_G m_M_note 59 [some (pe_r 29), some (pe_i p), some (pe_i i), some (pe_i o), some (pe_i x.1)] [] x.2 (pe_qv (fun σ' => pe_B σ' ∧ (∀ b, b ∉ [29, 32, 33, 34, 35, 36] → σ' b = σ b) ∧ (∀ j, j ∉ ([3, 7] : List Int) → σ' 29 j = σ 29 j) ∧ (pe_mn σ σ' p i o ∧ (∀ j, 0 ≤ j → j < o → σ' 36 (σ 29 7 * 200 + j) = σ 30 (p + j)) ∧ ∀ j, j < σ 29 7 * 200 → σ' 36 j = σ 36 j))) := by
    refine pe_loop (fun x : Int × pe_H => (300 - x.1).toNat) _ _ ?_
    intro x hI ih
    obtain ⟨k, τ⟩ := x
    dsimp only at hI ⊢
    obtain ⟨hB, hfr, hX⟩ := hI
    obtain ⟨t29, ⟨E1, E2⟩, ⟨L1, L2⟩, hX⟩ := hX
    have v7 : τ 29 7 = σ 29 7 := congrFun t29 7
    have v3 : τ 29 3 = σ 29 3 := congrFun t29 3
    have hBt := hB
    refine pe_iload d_M_note_59 rfl ?_
    refine pe_iload_n d_M_note_61 rfl ?_
    refine pe_icmp_ge (t := 96) d_M_note_62 (by first | exact hB _ _ | exact hB0 _ _ | exact hBt _ _ | exact ⟨by omega, by omega⟩) (by first | exact hB _ _ | exact hB0 _ _ | exact hBt _ _ | exact ⟨by omega, by omega⟩) (fun h62 => ?_) (fun h62 => ?_)
    · skip
      refine pe_aload_n d_M_note_96 rfl ?_
      refine pe_dup d_M_note_97 ?_
      refine pe_geti f_M_111 d_M_note_98 rfl rfl 7 rfl ?_
      refine pe_iconst d_M_note_101 ?_
      refine pe_iadd d_M_note_102 ?_
      refine pe_putiT f_M_111 g_11_7 d_M_note_103 rfl rfl 7 rfl hB (by first | exact hB _ _ | exact hB0 _ _ | exact hBt _ _ | exact ⟨by omega, by omega⟩) (fun σ103 hB e103 o103 f103 => ?_)
      try have u103_0 : σ103 29 1 = τ 29 1 := by first | exact o103 1 (by decide) | exact congrFun (f103 29 (by decide)) 1
      try have u103_1 : σ103 29 2 = τ 29 2 := by first | exact o103 2 (by decide) | exact congrFun (f103 29 (by decide)) 2
      try have u103_2 : σ103 29 3 = τ 29 3 := by first | exact o103 3 (by decide) | exact congrFun (f103 29 (by decide)) 3
      try have u103_3 : σ103 29 7 = τ 29 7 := by first | exact o103 7 (by decide) | exact congrFun (f103 29 (by decide)) 7
      refine pe_aload_n d_M_note_106 rfl ?_
      refine pe_iconst d_M_note_107 ?_
      refine pe_putiT f_M_13 g_11_3 d_M_note_108 rfl rfl 3 rfl hB (by first | exact hB _ _ | exact hB0 _ _ | exact hBt _ _ | exact ⟨by omega, by omega⟩) (fun σ108 hB e108 o108 f108 => ?_)
      try have u108_0 : σ108 29 1 = σ103 29 1 := by first | exact o108 1 (by decide) | exact congrFun (f108 29 (by decide)) 1
      try have u108_1 : σ108 29 2 = σ103 29 2 := by first | exact o108 2 (by decide) | exact congrFun (f108 29 (by decide)) 2
      try have u108_2 : σ108 29 3 = σ103 29 3 := by first | exact o108 3 (by decide) | exact congrFun (f108 29 (by decide)) 3
      try have u108_3 : σ108 29 7 = σ103 29 7 := by first | exact o108 7 (by decide) | exact congrFun (f108 29 (by decide)) 7
      refine pe_rv d_M_note_111 ?_
      have hk : k = o := by omega
      exact ⟨hB, (fun b hb => (f108 b (by simp at hb ⊢; try omega)).trans ((f103 b (by simp at hb ⊢; try omega)).trans (hfr b (by simp at hb ⊢; try omega)))), (fun j hj => (o108 j (by simp at hj ⊢; try omega)).trans ((o103 j (by simp at hj ⊢; try omega)).trans (congrFun t29 j))), ⟨⟨by omega, by omega⟩, by rw [f108 32 (by decide), f103 32 (by decide), f108 33 (by decide), f103 33 (by decide), f108 34 (by decide), f103 34 (by decide), f108 35 (by decide), f103 35 (by decide)]; exact ⟨E1, E2⟩⟩, by rw [f108 36 (by decide), f103 36 (by decide), ← hk]; exact ⟨L1, L2⟩⟩
    · skip
      refine pe_aload_n d_M_note_65 rfl ?_
      refine pe_getr f_M_35 d_M_note_66 rfl rfl ?_
      refine pe_sipush d_M_note_69 ?_
      refine pe_aload_n d_M_note_72 rfl ?_
      refine pe_geti f_M_111 d_M_note_73 rfl rfl 7 rfl ?_
      refine pe_imul d_M_note_76 ?_
      refine pe_iload d_M_note_77 rfl ?_
      refine pe_iadd d_M_note_79 ?_
      refine pe_aload_n d_M_note_80 rfl ?_
      refine pe_getr f_M_7 d_M_note_81 rfl rfl ?_
      refine pe_iload_n d_M_note_84 rfl ?_
      refine pe_iload d_M_note_85 rfl ?_
      refine pe_iadd d_M_note_87 ?_
      refine pe_iald d_M_note_88 rfl (by omega) (by omega) ?_
      refine pe_iastT d_M_note_89 rfl (by omega) (by omega) hB (by first | exact hB _ _ | exact hB0 _ _ | exact hBt _ _ | exact ⟨by omega, by omega⟩) (fun σ89 hB e89 o89 f89 => ?_)
      try have u89_0 : σ89 29 1 = τ 29 1 := by first | exact o89 1 (by decide) | exact congrFun (f89 29 (by decide)) 1
      try have u89_1 : σ89 29 2 = τ 29 2 := by first | exact o89 2 (by decide) | exact congrFun (f89 29 (by decide)) 2
      try have u89_2 : σ89 29 3 = τ 29 3 := by first | exact o89 3 (by decide) | exact congrFun (f89 29 (by decide)) 3
      try have u89_3 : σ89 29 7 = τ 29 7 := by first | exact o89 7 (by decide) | exact congrFun (f89 29 (by decide)) 7
      refine pe_iinc d_M_note_90 rfl ?_
      refine pe_goto (t := 59) d_M_note_93 ?_
      exact ih (_, _) ⟨hB, (fun b hb => (f89 b (by simp at hb ⊢; try omega)).trans (hfr b (by simp at hb ⊢; try omega))), (f89 29 (by decide)).trans t29, ⟨by (try dsimp only); rw [f89 32 (by decide), f89 33 (by decide), f89 34 (by decide), f89 35 (by decide)]; exact E1, by (try dsimp only); rw [f89 32 (by decide), f89 33 (by decide), f89 34 (by decide), f89 35 (by decide)]; exact E2⟩, ⟨fun j a b => by
          (try dsimp only at *)
          by_cases e : j = k
          · rw [e, show σ 29 7 * 200 + k = 200 * τ 29 7 + k by omega, e89, hfr 30 (by decide)]
          · rw [o89 _ (by omega)]; exact L1 j a (by omega), fun j a => by (try dsimp only at *); rw [o89 _ (by omega)]; exact L2 j a⟩, by (try dsimp only); omega⟩ (by (try dsimp only); omega)
  refine pe_aload_n d_M_note_0 rfl ?_
  refine pe_geti f_M_111 d_M_note_1 rfl rfl 7 rfl ?_
  refine pe_bipush d_M_note_4 ?_
  refine pe_icmp_ne (t := 13) d_M_note_6 (by first | exact hB _ _ | exact hB0 _ _ | exact hBt _ _ | exact ⟨by omega, by omega⟩) (by first | exact hB _ _ | exact hB0 _ _ | exact hBt _ _ | exact ⟨by omega, by omega⟩) (fun h6 => ?_) (fun h6 => ?_)
  · skip
    refine pe_aload_n d_M_note_13 rfl ?_
    refine pe_getr f_M_23 d_M_note_14 rfl rfl ?_
    refine pe_aload_n d_M_note_17 rfl ?_
    refine pe_geti f_M_111 d_M_note_18 rfl rfl 7 rfl ?_
    refine pe_iload_n d_M_note_21 rfl ?_
    refine pe_iastT d_M_note_22 rfl (by omega) (by omega) hB (by first | exact hB _ _ | exact hB0 _ _ | exact hBt _ _ | exact ⟨by omega, by omega⟩) (fun σ22 hB e22 o22 f22 => ?_)
    try have u22_0 : σ22 29 1 = σ 29 1 := by first | exact o22 1 (by decide) | exact congrFun (f22 29 (by decide)) 1
    try have u22_1 : σ22 29 2 = σ 29 2 := by first | exact o22 2 (by decide) | exact congrFun (f22 29 (by decide)) 2
    try have u22_2 : σ22 29 3 = σ 29 3 := by first | exact o22 3 (by decide) | exact congrFun (f22 29 (by decide)) 3
    try have u22_3 : σ22 29 7 = σ 29 7 := by first | exact o22 7 (by decide) | exact congrFun (f22 29 (by decide)) 7
    refine pe_aload_n d_M_note_23 rfl ?_
    refine pe_getr f_M_26 d_M_note_24 rfl rfl ?_
    refine pe_aload_n d_M_note_27 rfl ?_
    refine pe_geti f_M_111 d_M_note_28 rfl rfl 7 rfl ?_
    refine pe_iload_n d_M_note_31 rfl ?_
    refine pe_iastT d_M_note_32 rfl (by omega) (by omega) hB (by first | exact hB _ _ | exact hB0 _ _ | exact hBt _ _ | exact ⟨by omega, by omega⟩) (fun σ32 hB e32 o32 f32 => ?_)
    try have u32_0 : σ32 29 1 = σ22 29 1 := by first | exact o32 1 (by decide) | exact congrFun (f32 29 (by decide)) 1
    try have u32_1 : σ32 29 2 = σ22 29 2 := by first | exact o32 2 (by decide) | exact congrFun (f32 29 (by decide)) 2
    try have u32_2 : σ32 29 3 = σ22 29 3 := by first | exact o32 3 (by decide) | exact congrFun (f32 29 (by decide)) 3
    try have u32_3 : σ32 29 7 = σ22 29 7 := by first | exact o32 7 (by decide) | exact congrFun (f32 29 (by decide)) 7
    refine pe_aload_n d_M_note_33 rfl ?_
    refine pe_getr f_M_29 d_M_note_34 rfl rfl ?_
    refine pe_aload_n d_M_note_37 rfl ?_
    refine pe_geti f_M_111 d_M_note_38 rfl rfl 7 rfl ?_
    refine pe_iload_n d_M_note_41 rfl ?_
    refine pe_iastT d_M_note_42 rfl (by omega) (by omega) hB (by first | exact hB _ _ | exact hB0 _ _ | exact hBt _ _ | exact ⟨by omega, by omega⟩) (fun σ42 hB e42 o42 f42 => ?_)
    try have u42_0 : σ42 29 1 = σ32 29 1 := by first | exact o42 1 (by decide) | exact congrFun (f42 29 (by decide)) 1
    try have u42_1 : σ42 29 2 = σ32 29 2 := by first | exact o42 2 (by decide) | exact congrFun (f42 29 (by decide)) 2
    try have u42_2 : σ42 29 3 = σ32 29 3 := by first | exact o42 3 (by decide) | exact congrFun (f42 29 (by decide)) 3
    try have u42_3 : σ42 29 7 = σ32 29 7 := by first | exact o42 7 (by decide) | exact congrFun (f42 29 (by decide)) 7
    refine pe_aload_n d_M_note_43 rfl ?_
    refine pe_getr f_M_32 d_M_note_44 rfl rfl ?_
    refine pe_aload_n d_M_note_47 rfl ?_
    refine pe_geti f_M_111 d_M_note_48 rfl rfl 7 rfl ?_
    refine pe_aload_n d_M_note_51 rfl ?_
    refine pe_geti f_M_117 d_M_note_52 rfl rfl 2 rfl ?_
    refine pe_iastT d_M_note_55 rfl (by omega) (by omega) hB (by first | exact hB _ _ | exact hB0 _ _ | exact hBt _ _ | exact ⟨by omega, by omega⟩) (fun σ55 hB e55 o55 f55 => ?_)
    try have u55_0 : σ55 29 1 = σ42 29 1 := by first | exact o55 1 (by decide) | exact congrFun (f55 29 (by decide)) 1
    try have u55_1 : σ55 29 2 = σ42 29 2 := by first | exact o55 2 (by decide) | exact congrFun (f55 29 (by decide)) 2
    try have u55_2 : σ55 29 3 = σ42 29 3 := by first | exact o55 3 (by decide) | exact congrFun (f55 29 (by decide)) 3
    try have u55_3 : σ55 29 7 = σ42 29 7 := by first | exact o55 7 (by decide) | exact congrFun (f55 29 (by decide)) 7
    have t1 : σ22 29 = σ 29 := f22 29 (by decide)
    have t2 : σ32 29 = σ 29 := (f32 29 (by decide)).trans t1
    have t3 : σ42 29 = σ 29 := (f42 29 (by decide)).trans t2
    have t4 : σ55 29 = σ 29 := (f55 29 (by decide)).trans t3
    rw [t1] at e32 o32
    rw [t2] at e42 o42
    rw [t3] at e55 o55
    refine pe_iconst d_M_note_56 ?_
    refine pe_istore d_M_note_57 ?_
    exact J59 (_, _) ⟨hB, (fun b hb => (f55 b (by simp at hb ⊢; try omega)).trans ((f42 b (by simp at hb ⊢; try omega)).trans ((f32 b (by simp at hb ⊢; try omega)).trans ((f22 b (by simp at hb ⊢; try omega)).trans (rfl))))), t4, ⟨⟨(congrFun ((f55 32 (by decide)).trans ((f42 32 (by decide)).trans (f32 32 (by decide)))) _).trans e22, (congrFun ((f55 33 (by decide)).trans (f42 33 (by decide))) _).trans e32, (congrFun (f55 34 (by decide)) _).trans e42, e55⟩, fun q hq => ⟨(congrFun ((f55 32 (by decide)).trans ((f42 32 (by decide)).trans (f32 32 (by decide)))) q).trans (o22 q hq), (congrFun ((f55 33 (by decide)).trans (f42 33 (by decide))) q).trans ((o32 q hq).trans (congrFun (f22 33 (by decide)) q)), (congrFun (f55 34 (by decide)) q).trans ((o42 q hq).trans (congrFun ((f32 34 (by decide)).trans (f22 34 (by decide))) q)), (o55 q hq).trans (congrFun ((f42 35 (by decide)).trans ((f32 35 (by decide)).trans (f22 35 (by decide)))) q)⟩⟩, ⟨fun j a b => absurd b (by (try dsimp only at *); omega), fun j a => congrFun ((f55 36 (by decide)).trans ((f42 36 (by decide)).trans ((f32 36 (by decide)).trans (f22 36 (by decide))))) j⟩, by (try dsimp only); omega⟩
  · skip
    exfalso; omega
