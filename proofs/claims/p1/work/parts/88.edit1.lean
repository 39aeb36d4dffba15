/-! p1: the class's edits keep to the model -/
theorem pe_hk_c {a b b' : pe_H} {p n u w : Int} (h : pe_hk a b p n u w) (e : b' 5 = b 5 ∧ b' 6 = b 6 ∧ b' 7 = b 7 ∧ b' 8 = b 8 ∧ b' 9 = b 9) : pe_hk a b' p n u w := by
  unfold pe_hk at h ⊢
  rw [e.1, e.2.1, e.2.2.1, e.2.2.2.1, e.2.2.2.2]; exact h
theorem pe_ins_c {a b a' b' : pe_H} {p n : Int} {s : Int → Int} (h : pe_ins a b p n s) (e : a 3 = a' 3 ∧ a 4 = a' 4 ∧ b' 3 = b 3 ∧ b' 4 = b 4) : pe_ins a' b' p n s := by
  unfold pe_ins at h ⊢
  rw [← e.1, ← e.2.1, e.2.2.1, e.2.2.2]; exact h
theorem pe_del_c {a b a' b' : pe_H} {p n : Int} (h : pe_del a b p n) (e : a 3 = a' 3 ∧ a 4 = a' 4 ∧ b' 3 = b 3 ∧ b' 4 = b 4) : pe_del a' b' p n := by
  unfold pe_del at h ⊢
  rw [← e.1, ← e.2.1, e.2.2.1, e.2.2.2]; exact h
theorem pe_ca_I {m σ σ' : pe_H} {n : Int} {s s' : Int → Int} (hA : pe_ca m σ) (hc : 0 ≤ m 1 0 ∧ m 1 0 ≤ m 0 0) (hn : 0 ≤ n) (hk : pe_hk σ σ' (m 1 0) n (m 1 0) 0) (ht : pe_ins σ σ' (m 1 0) n s') (hs : ∀ j, 0 ≤ j → j < n → s' j = s j) (h2 : (σ' 2 7 = m 1 0 + n ∧ σ' 2 8 = -1) ∧ σ' 2 5 = σ 2 5 ∧ σ' 2 9 = σ 2 9 ∧ σ' 2 10 = σ 2 10 ∧ σ' 2 6 = σ 2 6) (h15 : σ' 15 = σ 15) (h10 : σ' 10 = σ 10) : pe_ca (pe_eI m n s) σ' := by
  obtain ⟨⟨⟨a1, a2, a3, a4, a5⟩, ⟨a6, a7⟩, a8, a9⟩, A2, A3, A4⟩ := hA
  obtain ⟨t1, t2⟩ := ht
  obtain ⟨⟨k1, k2⟩, ⟨k3, k4, k5, k6⟩, k7⟩ := hk
  refine ⟨⟨⟨show σ' 3 1 = m 0 0 + n by omega, show σ' 2 7 = m 1 0 + n by omega, show σ' 2 8 = -1 by omega, show σ' 2 5 = m 3 0 by omega, show σ' 2 9 = m 4 0 by omega⟩, ⟨k1, show σ' 5 6 = m 5 0 + 1 by omega⟩, show σ' 2 10 = m 6 0 by omega, show σ' 2 6 = m 7 0 by omega⟩, ?_, ?_, ?_⟩
  · intro j h0 h1
    have h1' : j < m 0 0 + n := h1
    show σ' 4 j = if j < m 1 0 then m 8 j else if j < m 1 0 + n then s (j - m 1 0) else m 8 (j - n)
    rw [t2 j h0 (by omega)]
    by_cases q : j < m 1 0
    · rw [if_pos q, if_pos q]; exact A2 j h0 (by omega)
    · rw [if_neg q, if_neg q]
      by_cases q2 : j < m 1 0 + n
      · rw [if_pos q2, if_pos q2]; exact hs _ (by omega) (by omega)
      · rw [if_neg q2, if_neg q2]; exact A2 _ (by omega) (by omega)
  · intro j h0 h1
    rw [h15]; exact A3 j h0 h1
  · intro i h0 h1
    have h1' : i < m 5 0 + 1 := h1
    show (σ' 6 i = (if i = m 5 0 then m 1 0 else m 10 i) ∧ σ' 8 i = (if i = m 5 0 then m 1 0 else m 13 i)) ∧ ((σ' 9 i = 0 ∧ σ' 7 i = (if i = m 5 0 then n else m 11 i) ∧ (if i = m 5 0 then 0 else m 12 i) = 0) ∨ (σ' 9 i = 1 ∧ σ' 7 i = (if i = m 5 0 then 0 else m 12 i) ∧ (if i = m 5 0 then n else m 11 i) = 0 ∧ ∀ j, 0 ≤ j → j < (if i = m 5 0 then 0 else m 12 i) → σ' 10 (i * 200 + j) = m 14 (i * 200 + j)))
    by_cases q : i = m 5 0
    · simp only [if_pos q]
      rw [q, ← a7]; exact ⟨⟨k3, k5⟩, Or.inl ⟨k6, k4, trivial⟩⟩
    · simp only [if_neg q]
      obtain ⟨e1, e2, e3, e4⟩ := k7 i (by omega)
      rw [e1, e2, e3, e4, h10]; exact A4 i h0 (by omega)
theorem pe_ca_D {m σ σ' : pe_H} {p q : Int} (hA : pe_ca m σ) (hw : pe_wf m) (hc : 0 ≤ p ∧ p < q ∧ q ≤ m 0 0) (hk : pe_hk σ σ' p (q - p) (m 1 0) 1) (hg : (∀ j, 0 ≤ j → j < q - p → σ' 10 (σ 5 6 * 200 + j) = σ 4 (p + j)) ∧ ∀ j, j < σ 5 6 * 200 → σ' 10 j = σ 10 j) (ht : pe_del σ σ' p (q - p)) (h2 : (σ' 2 7 = p ∧ σ' 2 8 = -1) ∧ σ' 2 5 = σ 2 5 ∧ σ' 2 9 = σ 2 9 ∧ σ' 2 10 = σ 2 10 ∧ σ' 2 6 = σ 2 6) (h15 : σ' 15 = σ 15) : pe_ca (pe_eD m p q) σ' := by
  obtain ⟨⟨⟨a1, a2, a3, a4, a5⟩, ⟨a6, a7⟩, a8, a9⟩, A2, A3, A4⟩ := hA
  obtain ⟨t1, t2⟩ := ht
  obtain ⟨⟨k1, k2⟩, ⟨k3, k4, k5, k6⟩, k7⟩ := hk
  refine ⟨⟨⟨show σ' 3 1 = m 0 0 - (q - p) by omega, show σ' 2 7 = p by omega, show σ' 2 8 = -1 by omega, show σ' 2 5 = m 3 0 by omega, show σ' 2 9 = m 4 0 by omega⟩, ⟨k1, show σ' 5 6 = m 5 0 + 1 by omega⟩, show σ' 2 10 = m 6 0 by omega, show σ' 2 6 = m 7 0 by omega⟩, ?_, ?_, ?_⟩
  · intro j h0 h1
    have h1' : j < m 0 0 - (q - p) := h1
    show σ' 4 j = if j < p then m 8 j else m 8 (j + (q - p))
    rw [t2 j h0 (by omega)]
    by_cases w : j < p
    · rw [if_pos w, if_pos w]; exact A2 j h0 (by omega)
    · rw [if_neg w, if_neg w]; exact A2 _ (by omega) (by omega)
  · intro j h0 h1
    rw [h15]; exact A3 j h0 h1
  · intro i h0 h1
    have h1' : i < m 5 0 + 1 := h1
    show (σ' 6 i = (if i = m 5 0 then p else m 10 i) ∧ σ' 8 i = (if i = m 5 0 then m 1 0 else m 13 i)) ∧ ((σ' 9 i = 0 ∧ σ' 7 i = (if i = m 5 0 then 0 else m 11 i) ∧ (if i = m 5 0 then q - p else m 12 i) = 0) ∨ (σ' 9 i = 1 ∧ σ' 7 i = (if i = m 5 0 then q - p else m 12 i) ∧ (if i = m 5 0 then 0 else m 11 i) = 0 ∧ ∀ j, 0 ≤ j → j < (if i = m 5 0 then q - p else m 12 i) → σ' 10 (i * 200 + j) = if m 5 0 * 200 ≤ i * 200 + j then m 8 (p + (i * 200 + j - m 5 0 * 200)) else m 14 (i * 200 + j)))
    by_cases w : i = m 5 0
    · simp only [if_pos w]
      subst w
      refine ⟨⟨by rw [← a7]; exact k3, by rw [← a7]; exact k5⟩, Or.inr ⟨by rw [← a7]; exact k6, by rw [← a7]; exact k4, trivial, fun j h2 h3 => ?_⟩⟩
      rw [if_pos (by omega), ← a7, hg.1 j h2 h3, A2 _ (by omega) (by omega)]
      exact congrArg (m 8) (by omega)
    · simp only [if_neg w]
      obtain ⟨e1, e2, e3, e4⟩ := k7 i (by omega)
      rw [e1, e2, e3, e4]
      obtain ⟨b1, b2⟩ := A4 i h0 (by omega)
      refine ⟨b1, b2.imp id (fun b3 => ⟨b3.1, b3.2.1, b3.2.2.1, fun j h2 h3 => ?_⟩)⟩
      have w2 := (hw.2.2 i h0 (by omega)).1
      rw [if_neg (by omega), hg.2 _ (by omega)]
      exact b3.2.2.2 j h2 h3
theorem pe_ca_U {m σ σ' : pe_H} {i : Int} (hA : pe_ca m σ) (hw : pe_wf m) (hi : 0 ≤ i ∧ i + 1 = m 5 0) (ht : (σ 9 i ≠ 0 ∧ pe_ins σ σ' (σ 6 i) (σ 7 i) (fun x => σ 10 (i * 200 + x))) ∨ (σ 9 i = 0 ∧ pe_del σ σ' (σ 6 i) (σ 7 i))) (h2 : (σ' 2 7 = σ 8 i ∧ σ' 2 8 = -1) ∧ σ' 2 5 = σ 2 5 ∧ σ' 2 9 = σ 2 9 ∧ σ' 2 10 = σ 2 10 ∧ σ' 2 6 = σ 2 6) (h5 : σ' 5 5 = 0 ∧ σ' 5 6 = i) (hf : (σ' 15 = σ 15 ∧ σ' 10 = σ 10) ∧ σ' 6 = σ 6 ∧ σ' 7 = σ 7 ∧ σ' 8 = σ 8 ∧ σ' 9 = σ 9) : pe_ca (pe_eU m i) σ' := by
  obtain ⟨⟨⟨a1, a2, a3, a4, a5⟩, ⟨a6, a7⟩, a8, a9⟩, A2, A3, A4⟩ := hA
  obtain ⟨⟨b1, b2⟩, b3⟩ := A4 i hi.1 (by omega)
  obtain ⟨w1, w2, w3⟩ := hw.2.2 i hi.1 (by omega)
  have w2 := w2 hi.2
  have hL : σ' 3 1 = m 0 0 - m 11 i + m 12 i := by
    rcases ht with ⟨n1, t1, t2⟩ | ⟨n1, t1, t2⟩ <;> omega
  refine ⟨⟨⟨hL, show σ' 2 7 = m 13 i by omega, show σ' 2 8 = -1 by omega, show σ' 2 5 = m 3 0 by omega, show σ' 2 9 = m 4 0 by omega⟩, ⟨h5.1, h5.2⟩, show σ' 2 10 = m 6 0 by omega, show σ' 2 6 = m 7 0 by omega⟩, ?_, ?_, ?_⟩
  · intro j h0 h1
    have h1' : j < m 0 0 - m 11 i + m 12 i := h1
    show σ' 4 j = if j < m 10 i then m 8 j else if j < m 10 i + m 12 i then m 14 (i * 200 + (j - m 10 i)) else m 8 (j - m 12 i + m 11 i)
    rcases ht with ⟨n1, t1, t2⟩ | ⟨n1, t1, t2⟩
    · obtain ⟨c1, c2, c3, c4⟩ := b3.resolve_left (fun h => n1 h.1)
      rw [t2 j h0 (by omega), b1, c2]
      by_cases q : j < m 10 i
      · rw [if_pos q, if_pos q]; exact A2 j h0 (by omega)
      · rw [if_neg q, if_neg q]
        by_cases q2 : j < m 10 i + m 12 i
        · rw [if_pos q2, if_pos q2]; exact c4 _ (by omega) (by omega)
        · rw [if_neg q2, if_neg q2, A2 _ (by omega) (by omega)]; exact congrArg (m 8) (by omega)
    · obtain ⟨c1, c2, c3⟩ := b3.resolve_right (fun h => by omega)
      rw [t2 j h0 (by omega), b1, c2]
      by_cases q : j < m 10 i
      · rw [if_pos q, if_pos q]; exact A2 j h0 (by omega)
      · rw [if_neg q, if_neg q, if_neg (by omega), A2 _ (by omega) (by omega)]; exact congrArg (m 8) (by omega)
  · intro j h0 h1
    rw [hf.1.1]; exact A3 j h0 h1
  · intro k h0 h1
    have h1' : k < i := h1
    rw [hf.2.1, hf.2.2.1, hf.2.2.2.1, hf.2.2.2.2, hf.1.2]
    exact A4 k h0 (by omega)
theorem x_E_insert_16 {m σ : pe_H} {n : Int} {s : Int → Int} (hB : pe_B σ) (hA : pe_ca m σ) (hw : pe_wf m) (hk : m 5 0 ≤ 11) (hn : 0 ≤ n ∧ n ≤ 1) (hs : ∀ j, 0 ≤ j → j < n → σ 16 j = s j) : pe_M m_E_insert [pe_r 2, pe_r 16, pe_i n] σ (pe_qv (fun σ' => pe_B σ' ∧ (∀ b, b ∉ [2, 3, 4, 5, 6, 7, 8, 9] → σ' b = σ b) ∧ pe_ca (pe_eIns m n s) σ')) := by
  refine pe_in0 (lv := [some (pe_r 2), some (pe_r 16), some (pe_i n)]) ?_
  have hB0 := hB
  obtain ⟨⟨⟨a1, a2, a3, a4, a5⟩, ⟨a6, a7⟩, a8, a9⟩, A2, A3, A4⟩ := id hA
  obtain ⟨⟨w1, w2, w3, w4, w5, w6, w7, w8⟩, W2, W3⟩ := id hw
  refine pe_iload_n d_E_insert_0 rfl ?_
  refine pe_if_eq (t := 15) d_E_insert_1 (by first | exact hB _ _ | exact hB0 _ _ | exact hBt _ _ | exact ⟨by omega, by omega⟩) (fun h1 => ?_) (fun h1 => ?_)
  · skip
    refine pe_rv d_E_insert_15 ?_
    exact ⟨hB, (fun b hb => rfl), by unfold pe_eIns; rw [if_pos (by omega)]; exact hA⟩
  · skip
    refine pe_aload_n d_E_insert_4 rfl ?_
    refine pe_getr f_E_12 d_E_insert_5 rfl rfl ?_
    refine pe_iload_n d_E_insert_8 rfl ?_
    refine pe_v1p d_E_insert_9 c_E_112 i_T_hasRoomFor s_T_hasRoomFor rfl rfl (t_T_hasRoomFor (by omega) (by omega)) (fun z9 hz9 => ?_)
    refine pe_if_ne (t := 16) d_E_insert_12 (by first | exact hB _ _ | exact hB0 _ _ | exact hBt _ _ | exact ⟨by omega, by omega⟩) (fun h12 => ?_) (fun h12 => ?_)
    · skip
      refine pe_aload_n d_E_insert_16 rfl ?_
      refine pe_getr f_E_21 d_E_insert_17 rfl rfl ?_
      refine pe_aload_n d_E_insert_20 rfl ?_
      refine pe_geti f_E_78 d_E_insert_21 rfl rfl 7 rfl ?_
      refine pe_iload_n d_E_insert_24 rfl ?_
      refine pe_v2v d_E_insert_25 c_E_115 i_H_keepInsertion s_H_keepInsertion rfl rfl (x_H_keepInsertion hB (by omega) (by omega) (by omega)) (fun σ25 hz25 => ?_)
      obtain ⟨hB, f25, x25⟩ := hz25
      try have u25_0 : σ25 2 5 = σ 2 5 := by first | exact o25 5 (by decide) | exact congrFun (f25 2 (by decide)) 5
      try have u25_1 : σ25 2 6 = σ 2 6 := by first | exact o25 6 (by decide) | exact congrFun (f25 2 (by decide)) 6
      try have u25_2 : σ25 2 7 = σ 2 7 := by first | exact o25 7 (by decide) | exact congrFun (f25 2 (by decide)) 7
      try have u25_3 : σ25 2 8 = σ 2 8 := by first | exact o25 8 (by decide) | exact congrFun (f25 2 (by decide)) 8
      try have u25_4 : σ25 2 9 = σ 2 9 := by first | exact o25 9 (by decide) | exact congrFun (f25 2 (by decide)) 9
      try have u25_5 : σ25 2 10 = σ 2 10 := by first | exact o25 10 (by decide) | exact congrFun (f25 2 (by decide)) 10
      try have u25_6 : σ25 3 1 = σ 3 1 := by first | exact o25 1 (by decide) | exact congrFun (f25 3 (by decide)) 1
      refine pe_aload_n d_E_insert_28 rfl ?_
      refine pe_getr f_E_12 d_E_insert_29 rfl rfl ?_
      refine pe_aload_n d_E_insert_32 rfl ?_
      refine pe_geti f_E_78 d_E_insert_33 rfl rfl 7 rfl ?_
      refine pe_aload_n d_E_insert_36 rfl ?_
      refine pe_iconst d_E_insert_37 ?_
      refine pe_iload_n d_E_insert_38 rfl ?_
      refine pe_v4v d_E_insert_39 c_E_118 i_T_insert s_T_insert rfl rfl (x_T_insert_16 hB (by omega) (by omega) (by omega)) (fun σ39 hz39 => ?_)
      obtain ⟨hB, f39, x39⟩ := hz39
      try have u39_0 : σ39 2 5 = σ25 2 5 := by first | exact o39 5 (by decide) | exact congrFun (f39 2 (by decide)) 5
      try have u39_1 : σ39 2 6 = σ25 2 6 := by first | exact o39 6 (by decide) | exact congrFun (f39 2 (by decide)) 6
      try have u39_2 : σ39 2 7 = σ25 2 7 := by first | exact o39 7 (by decide) | exact congrFun (f39 2 (by decide)) 7
      try have u39_3 : σ39 2 8 = σ25 2 8 := by first | exact o39 8 (by decide) | exact congrFun (f39 2 (by decide)) 8
      try have u39_4 : σ39 2 9 = σ25 2 9 := by first | exact o39 9 (by decide) | exact congrFun (f39 2 (by decide)) 9
      try have u39_5 : σ39 2 10 = σ25 2 10 := by first | exact o39 10 (by decide) | exact congrFun (f39 2 (by decide)) 10
      try have u39_6 : σ39 3 1 = σ25 3 1 := by first | exact o39 1 (by decide) | exact congrFun (f39 3 (by decide)) 1
      refine pe_aload_n d_E_insert_42 rfl ?_
      refine pe_dup d_E_insert_43 ?_
      refine pe_geti f_E_78 d_E_insert_44 rfl rfl 7 rfl ?_
      refine pe_iload_n d_E_insert_47 rfl ?_
      refine pe_iadd d_E_insert_48 ?_
      refine pe_putiT f_E_78 g_2_7 d_E_insert_49 rfl rfl 7 rfl hB (by first | exact hB _ _ | exact hB0 _ _ | exact hBt _ _ | exact ⟨by omega, by omega⟩) (fun σ49 hB e49 o49 f49 => ?_)
      try have u49_0 : σ49 2 5 = σ39 2 5 := by first | exact o49 5 (by decide) | exact congrFun (f49 2 (by decide)) 5
      try have u49_1 : σ49 2 6 = σ39 2 6 := by first | exact o49 6 (by decide) | exact congrFun (f49 2 (by decide)) 6
      try have u49_2 : σ49 2 7 = σ39 2 7 := by first | exact o49 7 (by decide) | exact congrFun (f49 2 (by decide)) 7
      try have u49_3 : σ49 2 8 = σ39 2 8 := by first | exact o49 8 (by decide) | exact congrFun (f49 2 (by decide)) 8
      try have u49_4 : σ49 2 9 = σ39 2 9 := by first | exact o49 9 (by decide) | exact congrFun (f49 2 (by decide)) 9
      try have u49_5 : σ49 2 10 = σ39 2 10 := by first | exact o49 10 (by decide) | exact congrFun (f49 2 (by decide)) 10
      try have u49_6 : σ49 3 1 = σ39 3 1 := by first | exact o49 1 (by decide) | exact congrFun (f49 3 (by decide)) 1
      refine pe_aload_n d_E_insert_52 rfl ?_
      refine pe_iconst d_E_insert_53 ?_
      refine pe_putiT f_E_39 g_2_8 d_E_insert_54 rfl rfl 8 rfl hB (by first | exact hB _ _ | exact hB0 _ _ | exact hBt _ _ | exact ⟨by omega, by omega⟩) (fun σ54 hB e54 o54 f54 => ?_)
      try have u54_0 : σ54 2 5 = σ49 2 5 := by first | exact o54 5 (by decide) | exact congrFun (f54 2 (by decide)) 5
      try have u54_1 : σ54 2 6 = σ49 2 6 := by first | exact o54 6 (by decide) | exact congrFun (f54 2 (by decide)) 6
      try have u54_2 : σ54 2 7 = σ49 2 7 := by first | exact o54 7 (by decide) | exact congrFun (f54 2 (by decide)) 7
      try have u54_3 : σ54 2 8 = σ49 2 8 := by first | exact o54 8 (by decide) | exact congrFun (f54 2 (by decide)) 8
      try have u54_4 : σ54 2 9 = σ49 2 9 := by first | exact o54 9 (by decide) | exact congrFun (f54 2 (by decide)) 9
      try have u54_5 : σ54 2 10 = σ49 2 10 := by first | exact o54 10 (by decide) | exact congrFun (f54 2 (by decide)) 10
      try have u54_6 : σ54 3 1 = σ49 3 1 := by first | exact o54 1 (by decide) | exact congrFun (f54 3 (by decide)) 1
      refine pe_rv d_E_insert_57 ?_
      have hk1 := pe_hk_c x25 ⟨((f54 5 (by decide)).trans ((f49 5 (by decide)).trans ((f39 5 (by decide)).trans (rfl)))), ((f54 6 (by decide)).trans ((f49 6 (by decide)).trans ((f39 6 (by decide)).trans (rfl)))), ((f54 7 (by decide)).trans ((f49 7 (by decide)).trans ((f39 7 (by decide)).trans (rfl)))), ((f54 8 (by decide)).trans ((f49 8 (by decide)).trans ((f39 8 (by decide)).trans (rfl)))), ((f54 9 (by decide)).trans ((f49 9 (by decide)).trans ((f39 9 (by decide)).trans (rfl))))⟩
      have hi1 := pe_ins_c x39 ⟨f25 3 (by decide), f25 4 (by decide), ((f54 3 (by decide)).trans ((f49 3 (by decide)).trans (rfl))), ((f54 4 (by decide)).trans ((f49 4 (by decide)).trans (rfl)))⟩
      have c25 : σ25 2 7 = m 1 0 := by omega
      rw [a2] at hk1
      rw [c25] at hi1
      exact ⟨hB, (fun b hb => (f54 b (by simp at hb ⊢; try omega)).trans ((f49 b (by simp at hb ⊢; try omega)).trans ((f39 b (by simp at hb ⊢; try omega)).trans ((f25 b (by simp at hb ⊢; try omega)).trans (rfl))))), by
        unfold pe_eIns; rw [if_neg (by omega)]
        exact pe_ca_I hA w2 hn.1 hk1 hi1 (fun j h0 h1 => by (try dsimp only); rw [f25 16 (by decide), Int.zero_add]; exact hs j h0 h1) (by omega) ((f54 15 (by decide)).trans ((f49 15 (by decide)).trans ((f39 15 (by decide)).trans ((f25 15 (by decide)).trans (rfl))))) ((f54 10 (by decide)).trans ((f49 10 (by decide)).trans ((f39 10 (by decide)).trans ((f25 10 (by decide)).trans (rfl)))))⟩
    · skip
      refine pe_rv d_E_insert_15 ?_
      exact ⟨hB, (fun b hb => rfl), by unfold pe_eIns; rw [if_pos (by omega)]; exact hA⟩
theorem x_E_insert_15 {m σ : pe_H} {n : Int} {s : Int → Int} (hB : pe_B σ) (hA : pe_ca m σ) (hw : pe_wf m) (hk : m 5 0 ≤ 11) (hn : 0 ≤ n ∧ n ≤ 200) (hs : ∀ j, 0 ≤ j → j < n → σ 15 j = s j) : pe_M m_E_insert [pe_r 2, pe_r 15, pe_i n] σ (pe_qv (fun σ' => pe_B σ' ∧ (∀ b, b ∉ [2, 3, 4, 5, 6, 7, 8, 9] → σ' b = σ b) ∧ pe_ca (pe_eIns m n s) σ')) := by
  refine pe_in0 (lv := [some (pe_r 2), some (pe_r 15), some (pe_i n)]) ?_
  have hB0 := hB
  obtain ⟨⟨⟨a1, a2, a3, a4, a5⟩, ⟨a6, a7⟩, a8, a9⟩, A2, A3, A4⟩ := id hA
  obtain ⟨⟨w1, w2, w3, w4, w5, w6, w7, w8⟩, W2, W3⟩ := id hw
  refine pe_iload_n d_E_insert_0 rfl ?_
  refine pe_if_eq (t := 15) d_E_insert_1 (by first | exact hB _ _ | exact hB0 _ _ | exact hBt _ _ | exact ⟨by omega, by omega⟩) (fun h1 => ?_) (fun h1 => ?_)
  · skip
    refine pe_rv d_E_insert_15 ?_
    exact ⟨hB, (fun b hb => rfl), by unfold pe_eIns; rw [if_pos (by omega)]; exact hA⟩
  · skip
    refine pe_aload_n d_E_insert_4 rfl ?_
    refine pe_getr f_E_12 d_E_insert_5 rfl rfl ?_
    refine pe_iload_n d_E_insert_8 rfl ?_
    refine pe_v1p d_E_insert_9 c_E_112 i_T_hasRoomFor s_T_hasRoomFor rfl rfl (t_T_hasRoomFor (by omega) (by omega)) (fun z9 hz9 => ?_)
    refine pe_if_ne (t := 16) d_E_insert_12 (by first | exact hB _ _ | exact hB0 _ _ | exact hBt _ _ | exact ⟨by omega, by omega⟩) (fun h12 => ?_) (fun h12 => ?_)
    · skip
      refine pe_aload_n d_E_insert_16 rfl ?_
      refine pe_getr f_E_21 d_E_insert_17 rfl rfl ?_
      refine pe_aload_n d_E_insert_20 rfl ?_
      refine pe_geti f_E_78 d_E_insert_21 rfl rfl 7 rfl ?_
      refine pe_iload_n d_E_insert_24 rfl ?_
      refine pe_v2v d_E_insert_25 c_E_115 i_H_keepInsertion s_H_keepInsertion rfl rfl (x_H_keepInsertion hB (by omega) (by omega) (by omega)) (fun σ25 hz25 => ?_)
      obtain ⟨hB, f25, x25⟩ := hz25
      try have u25_0 : σ25 2 5 = σ 2 5 := by first | exact o25 5 (by decide) | exact congrFun (f25 2 (by decide)) 5
      try have u25_1 : σ25 2 6 = σ 2 6 := by first | exact o25 6 (by decide) | exact congrFun (f25 2 (by decide)) 6
      try have u25_2 : σ25 2 7 = σ 2 7 := by first | exact o25 7 (by decide) | exact congrFun (f25 2 (by decide)) 7
      try have u25_3 : σ25 2 8 = σ 2 8 := by first | exact o25 8 (by decide) | exact congrFun (f25 2 (by decide)) 8
      try have u25_4 : σ25 2 9 = σ 2 9 := by first | exact o25 9 (by decide) | exact congrFun (f25 2 (by decide)) 9
      try have u25_5 : σ25 2 10 = σ 2 10 := by first | exact o25 10 (by decide) | exact congrFun (f25 2 (by decide)) 10
      try have u25_6 : σ25 3 1 = σ 3 1 := by first | exact o25 1 (by decide) | exact congrFun (f25 3 (by decide)) 1
      refine pe_aload_n d_E_insert_28 rfl ?_
      refine pe_getr f_E_12 d_E_insert_29 rfl rfl ?_
      refine pe_aload_n d_E_insert_32 rfl ?_
      refine pe_geti f_E_78 d_E_insert_33 rfl rfl 7 rfl ?_
      refine pe_aload_n d_E_insert_36 rfl ?_
      refine pe_iconst d_E_insert_37 ?_
      refine pe_iload_n d_E_insert_38 rfl ?_
      refine pe_v4v d_E_insert_39 c_E_118 i_T_insert s_T_insert rfl rfl (x_T_insert_15 hB (by omega) (by omega) (by omega)) (fun σ39 hz39 => ?_)
      obtain ⟨hB, f39, x39⟩ := hz39
      try have u39_0 : σ39 2 5 = σ25 2 5 := by first | exact o39 5 (by decide) | exact congrFun (f39 2 (by decide)) 5
      try have u39_1 : σ39 2 6 = σ25 2 6 := by first | exact o39 6 (by decide) | exact congrFun (f39 2 (by decide)) 6
      try have u39_2 : σ39 2 7 = σ25 2 7 := by first | exact o39 7 (by decide) | exact congrFun (f39 2 (by decide)) 7
      try have u39_3 : σ39 2 8 = σ25 2 8 := by first | exact o39 8 (by decide) | exact congrFun (f39 2 (by decide)) 8
      try have u39_4 : σ39 2 9 = σ25 2 9 := by first | exact o39 9 (by decide) | exact congrFun (f39 2 (by decide)) 9
      try have u39_5 : σ39 2 10 = σ25 2 10 := by first | exact o39 10 (by decide) | exact congrFun (f39 2 (by decide)) 10
      try have u39_6 : σ39 3 1 = σ25 3 1 := by first | exact o39 1 (by decide) | exact congrFun (f39 3 (by decide)) 1
      refine pe_aload_n d_E_insert_42 rfl ?_
      refine pe_dup d_E_insert_43 ?_
      refine pe_geti f_E_78 d_E_insert_44 rfl rfl 7 rfl ?_
      refine pe_iload_n d_E_insert_47 rfl ?_
      refine pe_iadd d_E_insert_48 ?_
      refine pe_putiT f_E_78 g_2_7 d_E_insert_49 rfl rfl 7 rfl hB (by first | exact hB _ _ | exact hB0 _ _ | exact hBt _ _ | exact ⟨by omega, by omega⟩) (fun σ49 hB e49 o49 f49 => ?_)
      try have u49_0 : σ49 2 5 = σ39 2 5 := by first | exact o49 5 (by decide) | exact congrFun (f49 2 (by decide)) 5
      try have u49_1 : σ49 2 6 = σ39 2 6 := by first | exact o49 6 (by decide) | exact congrFun (f49 2 (by decide)) 6
      try have u49_2 : σ49 2 7 = σ39 2 7 := by first | exact o49 7 (by decide) | exact congrFun (f49 2 (by decide)) 7
      try have u49_3 : σ49 2 8 = σ39 2 8 := by first | exact o49 8 (by decide) | exact congrFun (f49 2 (by decide)) 8
      try have u49_4 : σ49 2 9 = σ39 2 9 := by first | exact o49 9 (by decide) | exact congrFun (f49 2 (by decide)) 9
      try have u49_5 : σ49 2 10 = σ39 2 10 := by first | exact o49 10 (by decide) | exact congrFun (f49 2 (by decide)) 10
      try have u49_6 : σ49 3 1 = σ39 3 1 := by first | exact o49 1 (by decide) | exact congrFun (f49 3 (by decide)) 1
      refine pe_aload_n d_E_insert_52 rfl ?_
      refine pe_iconst d_E_insert_53 ?_
      refine pe_putiT f_E_39 g_2_8 d_E_insert_54 rfl rfl 8 rfl hB (by first | exact hB _ _ | exact hB0 _ _ | exact hBt _ _ | exact ⟨by omega, by omega⟩) (fun σ54 hB e54 o54 f54 => ?_)
      try have u54_0 : σ54 2 5 = σ49 2 5 := by first | exact o54 5 (by decide) | exact congrFun (f54 2 (by decide)) 5
      try have u54_1 : σ54 2 6 = σ49 2 6 := by first | exact o54 6 (by decide) | exact congrFun (f54 2 (by decide)) 6
      try have u54_2 : σ54 2 7 = σ49 2 7 := by first | exact o54 7 (by decide) | exact congrFun (f54 2 (by decide)) 7
      try have u54_3 : σ54 2 8 = σ49 2 8 := by first | exact o54 8 (by decide) | exact congrFun (f54 2 (by decide)) 8
      try have u54_4 : σ54 2 9 = σ49 2 9 := by first | exact o54 9 (by decide) | exact congrFun (f54 2 (by decide)) 9
      try have u54_5 : σ54 2 10 = σ49 2 10 := by first | exact o54 10 (by decide) | exact congrFun (f54 2 (by decide)) 10
      try have u54_6 : σ54 3 1 = σ49 3 1 := by first | exact o54 1 (by decide) | exact congrFun (f54 3 (by decide)) 1
      refine pe_rv d_E_insert_57 ?_
      have hk1 := pe_hk_c x25 ⟨((f54 5 (by decide)).trans ((f49 5 (by decide)).trans ((f39 5 (by decide)).trans (rfl)))), ((f54 6 (by decide)).trans ((f49 6 (by decide)).trans ((f39 6 (by decide)).trans (rfl)))), ((f54 7 (by decide)).trans ((f49 7 (by decide)).trans ((f39 7 (by decide)).trans (rfl)))), ((f54 8 (by decide)).trans ((f49 8 (by decide)).trans ((f39 8 (by decide)).trans (rfl)))), ((f54 9 (by decide)).trans ((f49 9 (by decide)).trans ((f39 9 (by decide)).trans (rfl))))⟩
      have hi1 := pe_ins_c x39 ⟨f25 3 (by decide), f25 4 (by decide), ((f54 3 (by decide)).trans ((f49 3 (by decide)).trans (rfl))), ((f54 4 (by decide)).trans ((f49 4 (by decide)).trans (rfl)))⟩
      have c25 : σ25 2 7 = m 1 0 := by omega
      rw [a2] at hk1
      rw [c25] at hi1
      exact ⟨hB, (fun b hb => (f54 b (by simp at hb ⊢; try omega)).trans ((f49 b (by simp at hb ⊢; try omega)).trans ((f39 b (by simp at hb ⊢; try omega)).trans ((f25 b (by simp at hb ⊢; try omega)).trans (rfl))))), by
        unfold pe_eIns; rw [if_neg (by omega)]
        exact pe_ca_I hA w2 hn.1 hk1 hi1 (fun j h0 h1 => by (try dsimp only); rw [f25 15 (by decide), Int.zero_add]; exact hs j h0 h1) (by omega) ((f54 15 (by decide)).trans ((f49 15 (by decide)).trans ((f39 15 (by decide)).trans ((f25 15 (by decide)).trans (rfl))))) ((f54 10 (by decide)).trans ((f49 10 (by decide)).trans ((f39 10 (by decide)).trans ((f25 10 (by decide)).trans (rfl)))))⟩
    · skip
      refine pe_rv d_E_insert_15 ?_
      exact ⟨hB, (fun b hb => rfl), by unfold pe_eIns; rw [if_pos (by omega)]; exact hA⟩
theorem pe_ca_16 {m σ σ' : pe_H} (hA : pe_ca m σ) (f : ∀ b, b ≠ 16 → σ' b = σ b) : pe_ca m σ' := by
  unfold pe_ca at hA ⊢
  rw [f 2 (by decide), f 3 (by decide), f 4 (by decide), f 5 (by decide), f 6 (by decide), f 7 (by decide), f 8 (by decide), f 9 (by decide), f 10 (by decide), f 15 (by decide)]
  exact hA
theorem x_E_insertOne {m σ : pe_H} {k : Int} (hB : pe_B σ) (hA : pe_ca m σ) (hw : pe_wf m) (hk : m 5 0 ≤ 11) (hc : pe_R k) : pe_M m_E_insertOne [pe_r 2, pe_i k] σ (pe_qv (fun σ' => pe_B σ' ∧ (∀ b, b ∉ [2, 3, 4, 5, 6, 7, 8, 9, 16] → σ' b = σ b) ∧ pe_ca (pe_eIns m 1 (fun _ => k)) σ')) := by
  refine pe_in0 (lv := [some (pe_r 2), some (pe_i k)]) ?_
  have hB0 := hB
  refine pe_aload_n d_E_insertOne_0 rfl ?_
  refine pe_getr f_E_36 d_E_insertOne_1 rfl rfl ?_
  refine pe_iconst d_E_insertOne_4 ?_
  refine pe_iload_n d_E_insertOne_5 rfl ?_
  refine pe_iastT d_E_insertOne_6 rfl (by omega) (by omega) hB (by first | exact hB _ _ | exact hB0 _ _ | exact hBt _ _ | exact ⟨by omega, by omega⟩) (fun σ6 hB e6 o6 f6 => ?_)
  refine pe_aload_n d_E_insertOne_7 rfl ?_
  refine pe_aload_n d_E_insertOne_8 rfl ?_
  refine pe_getr f_E_36 d_E_insertOne_9 rfl rfl ?_
  refine pe_iconst d_E_insertOne_12 ?_
  refine pe_v2v d_E_insertOne_13 c_E_105 i_E_insert s_E_insert rfl rfl (x_E_insert_16 hB (pe_ca_16 hA f6) hw hk (by omega) (s := fun _ => k) (fun j h0 h1 => by rw [show j = 0 by omega]; exact e6)) (fun σ13 hz13 => ?_)
  obtain ⟨hB, f13, x13⟩ := hz13
  refine pe_rv d_E_insertOne_16 ?_
  exact ⟨hB, (fun b hb => (f13 b (by simp at hb ⊢; try omega)).trans ((f6 b (by simp at hb ⊢; try omega)).trans (rfl))), x13⟩
theorem x_E_removeBetween {m σ : pe_H} {f t : Int} (hB : pe_B σ) (hA : pe_ca m σ) (hw : pe_wf m) (hk : m 5 0 ≤ 11) (hf : 0 ≤ f ∧ f ≤ m 0 0 ∧ 0 ≤ t ∧ t ≤ m 0 0) : pe_M m_E_removeBetween [pe_r 2, pe_i f, pe_i t] σ (pe_qv (fun σ' => pe_B σ' ∧ (∀ b, b ∉ [2, 3, 4, 5, 6, 7, 8, 9, 10] → σ' b = σ b) ∧ pe_ca (pe_eDel m f t) σ')) := by
  refine pe_in0 (lv := [some (pe_r 2), some (pe_i f), some (pe_i t)]) ?_
  have hB0 := hB
  obtain ⟨⟨⟨a1, a2, a3, a4, a5⟩, ⟨a6, a7⟩, a8, a9⟩, A2, A3, A4⟩ := id hA
  obtain ⟨⟨w1, w2, w3, w4, w5, w6, w7, w8⟩, W2, W3⟩ := id hw
  refine pe_iload_n d_E_removeBetween_0 rfl ?_
  refine pe_iload_n d_E_removeBetween_1 rfl ?_
  refine pe_icmp_lt (t := 6) d_E_removeBetween_2 (by first | exact hB _ _ | exact hB0 _ _ | exact hBt _ _ | exact ⟨by omega, by omega⟩) (by first | exact hB _ _ | exact hB0 _ _ | exact hBt _ _ | exact ⟨by omega, by omega⟩) (fun h2 => ?_) (fun h2 => ?_)
  · skip
    refine pe_aload_n d_E_removeBetween_6 rfl ?_
    refine pe_getr f_E_21 d_E_removeBetween_7 rfl rfl ?_
    refine pe_aload_n d_E_removeBetween_10 rfl ?_
    refine pe_getr f_E_12 d_E_removeBetween_11 rfl rfl ?_
    refine pe_iload_n d_E_removeBetween_14 rfl ?_
    refine pe_iload_n d_E_removeBetween_15 rfl ?_
    refine pe_iload_n d_E_removeBetween_16 rfl ?_
    refine pe_isub d_E_removeBetween_17 ?_
    refine pe_aload_n d_E_removeBetween_18 rfl ?_
    refine pe_geti f_E_78 d_E_removeBetween_19 rfl rfl 7 rfl ?_
    refine pe_v4v d_E_removeBetween_22 c_E_121 i_H_keepRemoval s_H_keepRemoval rfl rfl (x_H_keepRemoval hB (by omega) (by omega) (by omega) (by omega)) (fun σ22 hz22 => ?_)
    obtain ⟨hB, f22, x22⟩ := hz22
    try have u22_0 : σ22 2 5 = σ 2 5 := by first | exact o22 5 (by decide) | exact congrFun (f22 2 (by decide)) 5
    try have u22_1 : σ22 2 6 = σ 2 6 := by first | exact o22 6 (by decide) | exact congrFun (f22 2 (by decide)) 6
    try have u22_2 : σ22 2 7 = σ 2 7 := by first | exact o22 7 (by decide) | exact congrFun (f22 2 (by decide)) 7
    try have u22_3 : σ22 2 8 = σ 2 8 := by first | exact o22 8 (by decide) | exact congrFun (f22 2 (by decide)) 8
    try have u22_4 : σ22 2 9 = σ 2 9 := by first | exact o22 9 (by decide) | exact congrFun (f22 2 (by decide)) 9
    try have u22_5 : σ22 2 10 = σ 2 10 := by first | exact o22 10 (by decide) | exact congrFun (f22 2 (by decide)) 10
    try have u22_6 : σ22 3 1 = σ 3 1 := by first | exact o22 1 (by decide) | exact congrFun (f22 3 (by decide)) 1
    refine pe_aload_n d_E_removeBetween_25 rfl ?_
    refine pe_getr f_E_12 d_E_removeBetween_26 rfl rfl ?_
    refine pe_iload_n d_E_removeBetween_29 rfl ?_
    refine pe_iload_n d_E_removeBetween_30 rfl ?_
    refine pe_iload_n d_E_removeBetween_31 rfl ?_
    refine pe_isub d_E_removeBetween_32 ?_
    refine pe_v2v d_E_removeBetween_33 c_E_125 i_T_remove s_T_remove rfl rfl (x_T_remove hB (by omega) (by omega)) (fun σ33 hz33 => ?_)
    obtain ⟨hB, f33, x33⟩ := hz33
    try have u33_0 : σ33 2 5 = σ22 2 5 := by first | exact o33 5 (by decide) | exact congrFun (f33 2 (by decide)) 5
    try have u33_1 : σ33 2 6 = σ22 2 6 := by first | exact o33 6 (by decide) | exact congrFun (f33 2 (by decide)) 6
    try have u33_2 : σ33 2 7 = σ22 2 7 := by first | exact o33 7 (by decide) | exact congrFun (f33 2 (by decide)) 7
    try have u33_3 : σ33 2 8 = σ22 2 8 := by first | exact o33 8 (by decide) | exact congrFun (f33 2 (by decide)) 8
    try have u33_4 : σ33 2 9 = σ22 2 9 := by first | exact o33 9 (by decide) | exact congrFun (f33 2 (by decide)) 9
    try have u33_5 : σ33 2 10 = σ22 2 10 := by first | exact o33 10 (by decide) | exact congrFun (f33 2 (by decide)) 10
    try have u33_6 : σ33 3 1 = σ22 3 1 := by first | exact o33 1 (by decide) | exact congrFun (f33 3 (by decide)) 1
    refine pe_aload_n d_E_removeBetween_36 rfl ?_
    refine pe_iload_n d_E_removeBetween_37 rfl ?_
    refine pe_putiT f_E_78 g_2_7 d_E_removeBetween_38 rfl rfl 7 rfl hB (by first | exact hB _ _ | exact hB0 _ _ | exact hBt _ _ | exact ⟨by omega, by omega⟩) (fun σ38 hB e38 o38 f38 => ?_)
    try have u38_0 : σ38 2 5 = σ33 2 5 := by first | exact o38 5 (by decide) | exact congrFun (f38 2 (by decide)) 5
    try have u38_1 : σ38 2 6 = σ33 2 6 := by first | exact o38 6 (by decide) | exact congrFun (f38 2 (by decide)) 6
    try have u38_2 : σ38 2 7 = σ33 2 7 := by first | exact o38 7 (by decide) | exact congrFun (f38 2 (by decide)) 7
    try have u38_3 : σ38 2 8 = σ33 2 8 := by first | exact o38 8 (by decide) | exact congrFun (f38 2 (by decide)) 8
    try have u38_4 : σ38 2 9 = σ33 2 9 := by first | exact o38 9 (by decide) | exact congrFun (f38 2 (by decide)) 9
    try have u38_5 : σ38 2 10 = σ33 2 10 := by first | exact o38 10 (by decide) | exact congrFun (f38 2 (by decide)) 10
    try have u38_6 : σ38 3 1 = σ33 3 1 := by first | exact o38 1 (by decide) | exact congrFun (f38 3 (by decide)) 1
    refine pe_aload_n d_E_removeBetween_41 rfl ?_
    refine pe_iconst d_E_removeBetween_42 ?_
    refine pe_putiT f_E_39 g_2_8 d_E_removeBetween_43 rfl rfl 8 rfl hB (by first | exact hB _ _ | exact hB0 _ _ | exact hBt _ _ | exact ⟨by omega, by omega⟩) (fun σ43 hB e43 o43 f43 => ?_)
    try have u43_0 : σ43 2 5 = σ38 2 5 := by first | exact o43 5 (by decide) | exact congrFun (f43 2 (by decide)) 5
    try have u43_1 : σ43 2 6 = σ38 2 6 := by first | exact o43 6 (by decide) | exact congrFun (f43 2 (by decide)) 6
    try have u43_2 : σ43 2 7 = σ38 2 7 := by first | exact o43 7 (by decide) | exact congrFun (f43 2 (by decide)) 7
    try have u43_3 : σ43 2 8 = σ38 2 8 := by first | exact o43 8 (by decide) | exact congrFun (f43 2 (by decide)) 8
    try have u43_4 : σ43 2 9 = σ38 2 9 := by first | exact o43 9 (by decide) | exact congrFun (f43 2 (by decide)) 9
    try have u43_5 : σ43 2 10 = σ38 2 10 := by first | exact o43 10 (by decide) | exact congrFun (f43 2 (by decide)) 10
    try have u43_6 : σ43 3 1 = σ38 3 1 := by first | exact o43 1 (by decide) | exact congrFun (f43 3 (by decide)) 1
    refine pe_rv d_E_removeBetween_46 ?_
    have hk1 := pe_hk_c x22.1 ⟨((f43 5 (by decide)).trans ((f38 5 (by decide)).trans ((f33 5 (by decide)).trans (rfl)))), ((f43 6 (by decide)).trans ((f38 6 (by decide)).trans ((f33 6 (by decide)).trans (rfl)))), ((f43 7 (by decide)).trans ((f38 7 (by decide)).trans ((f33 7 (by decide)).trans (rfl)))), ((f43 8 (by decide)).trans ((f38 8 (by decide)).trans ((f33 8 (by decide)).trans (rfl)))), ((f43 9 (by decide)).trans ((f38 9 (by decide)).trans ((f33 9 (by decide)).trans (rfl))))⟩
    have hi1 := pe_del_c x33 ⟨f22 3 (by decide), f22 4 (by decide), ((f43 3 (by decide)).trans ((f38 3 (by decide)).trans (rfl))), ((f43 4 (by decide)).trans ((f38 4 (by decide)).trans (rfl)))⟩
    rw [a2] at hk1
    exact ⟨hB, (fun b hb => (f43 b (by simp at hb ⊢; try omega)).trans ((f38 b (by simp at hb ⊢; try omega)).trans ((f33 b (by simp at hb ⊢; try omega)).trans ((f22 b (by simp at hb ⊢; try omega)).trans (rfl))))), by
      unfold pe_eDel; rw [if_neg (by omega)]
      exact pe_ca_D hA hw ⟨hf.1, by omega, by omega⟩ hk1 (by rw [((f43 10 (by decide)).trans ((f38 10 (by decide)).trans ((f33 10 (by decide)).trans (rfl))))]; exact x22.2) hi1 (by omega) ((f43 15 (by decide)).trans ((f38 15 (by decide)).trans ((f33 15 (by decide)).trans ((f22 15 (by decide)).trans (rfl)))))⟩
  · skip
    refine pe_rv d_E_removeBetween_5 ?_
    exact ⟨hB, (fun b hb => rfl), by unfold pe_eDel; rw [if_pos (by omega)]; exact hA⟩
theorem pe_wf_C {m : pe_H} {p q : Int} (hw : pe_wf m) (h : 0 ≤ p ∧ p ≤ q ∧ q ≤ m 0 0) : pe_wf (pe_eC m p q) := by
  obtain ⟨⟨w1, w2, w3, w4, w5⟩, ⟨V1, V2, V3⟩, W3⟩ := hw
  refine ⟨⟨w1, w2, w3, ?_, w5⟩, ⟨V1, ?_, V3⟩, W3⟩
  · show 0 ≤ q - p ∧ q - p ≤ 200; omega
  · intro j h0 h1
    have h1' : j < q - p := h1
    show pe_ok (m 8 (p + j))
    exact V1 _ (by omega) (by omega)
theorem pe_ca_C {m σ σ' : pe_H} {p q : Int} (hA : pe_ca m σ) (h : 0 ≤ p ∧ p ≤ q ∧ q ≤ m 0 0) (f : ∀ b, b ∉ [2, 15] → σ' b = σ b) (h2 : σ' 2 5 = q - p ∧ ∀ j, j ≠ 5 → σ' 2 j = σ 2 j) (g : ∀ j, 0 ≤ j → j < q - p → σ' 15 j = σ 4 (p + j)) : pe_ca (pe_eC m p q) σ' := by
  obtain ⟨⟨⟨a1, a2, a3, a4, a5⟩, a6, a8, a9⟩, A2, A3, A4⟩ := hA
  obtain ⟨h3, h4⟩ := h2
  have o7 := h4 7 (by decide)
  have o8 := h4 8 (by decide)
  have o9 := h4 9 (by decide)
  have o10 := h4 10 (by decide)
  have o6 := h4 6 (by decide)
  refine ⟨⟨⟨?_, by rw [o7]; exact a2, by rw [o8]; exact a3, h3, by rw [o9]; exact a5⟩, ?_, by rw [o10]; exact a8, by rw [o6]; exact a9⟩, ?_, ?_, ?_⟩
  · rw [f 3 (by decide)]; exact a1
  · rw [f 5 (by decide)]; exact a6
  · rw [f 4 (by decide)]; exact A2
  · intro j h0 h1
    have h1' : j < q - p := h1
    show σ' 15 j = m 8 (p + j)
    rw [g j h0 h1', A2 _ (by omega) (by omega)]
  · rw [f 6 (by decide), f 7 (by decide), f 8 (by decide), f 9 (by decide), f 10 (by decide)]; exact A4
theorem x_E_cut {m σ : pe_H} (hB : pe_B σ) (hA : pe_ca m σ) (hw : pe_wf m) (hk : m 5 0 ≤ 11) : pe_M m_E_cut [pe_r 2] σ (pe_qv (fun σ' => pe_B σ' ∧ (∀ b, b ∉ [2, 3, 4, 5, 6, 7, 8, 9, 10, 15] → σ' b = σ b) ∧ pe_ca (pe_eCut m) σ')) := by
  refine pe_in0 (lv := [some (pe_r 2), none, none]) ?_
  have hB0 := hB
  obtain ⟨⟨⟨a1, a2, a3, a4, a5⟩, ⟨a6, a7⟩, a8, a9⟩, A2, A3, A4⟩ := id hA
  obtain ⟨⟨w1, w2, w3, w4, w5, w6, w7, w8⟩, W2, W3⟩ := id hw
  refine pe_aload_n d_E_cut_0 rfl ?_
  refine pe_geti f_E_39 d_E_cut_1 rfl rfl 8 rfl ?_
  refine pe_iconst d_E_cut_4 ?_
  refine pe_icmp_eq (t := 19) d_E_cut_5 (by first | exact hB _ _ | exact hB0 _ _ | exact hBt _ _ | exact ⟨by omega, by omega⟩) (by first | exact hB _ _ | exact hB0 _ _ | exact hBt _ _ | exact ⟨by omega, by omega⟩) (fun h5 => ?_) (fun h5 => ?_)
  · skip
    refine pe_rv d_E_cut_19 ?_
    exact ⟨hB, (fun b hb => rfl), by unfold pe_eCut; rw [if_pos (by omega)]; exact hA⟩
  · skip
    refine pe_aload_n d_E_cut_8 rfl ?_
    refine pe_geti f_E_39 d_E_cut_9 rfl rfl 8 rfl ?_
    refine pe_aload_n d_E_cut_12 rfl ?_
    refine pe_geti f_E_78 d_E_cut_13 rfl rfl 7 rfl ?_
    refine pe_icmp_ne (t := 20) d_E_cut_16 (by first | exact hB _ _ | exact hB0 _ _ | exact hBt _ _ | exact ⟨by omega, by omega⟩) (by first | exact hB _ _ | exact hB0 _ _ | exact hBt _ _ | exact ⟨by omega, by omega⟩) (fun h16 => ?_) (fun h16 => ?_)
    · skip
      refine pe_aload_n d_E_cut_20 rfl ?_
      refine pe_geti f_E_39 d_E_cut_21 rfl rfl 8 rfl ?_
      refine pe_aload_n d_E_cut_24 rfl ?_
      refine pe_geti f_E_78 d_E_cut_25 rfl rfl 7 rfl ?_
      refine pe_minT c_E_128 d_E_cut_28 (by first | exact hB _ _ | exact hB0 _ _ | exact hBt _ _ | exact ⟨by omega, by omega⟩) (by first | exact hB _ _ | exact hB0 _ _ | exact hBt _ _ | exact ⟨by omega, by omega⟩) (fun z28 hz28 => ?_)
      refine pe_istore_n d_E_cut_31 ?_
      refine pe_aload_n d_E_cut_32 rfl ?_
      refine pe_geti f_E_39 d_E_cut_33 rfl rfl 8 rfl ?_
      refine pe_aload_n d_E_cut_36 rfl ?_
      refine pe_geti f_E_78 d_E_cut_37 rfl rfl 7 rfl ?_
      refine pe_maxT c_E_134 d_E_cut_40 (by first | exact hB _ _ | exact hB0 _ _ | exact hBt _ _ | exact ⟨by omega, by omega⟩) (by first | exact hB _ _ | exact hB0 _ _ | exact hBt _ _ | exact ⟨by omega, by omega⟩) (fun z40 hz40 => ?_)
      refine pe_istore_n d_E_cut_43 ?_
      refine pe_aload_n d_E_cut_44 rfl ?_
      refine pe_iload_n d_E_cut_45 rfl ?_
      refine pe_iload_n d_E_cut_46 rfl ?_
      refine pe_isub d_E_cut_47 ?_
      refine pe_putiT f_E_102 g_2_5 d_E_cut_48 rfl rfl 5 rfl hB (by first | exact hB _ _ | exact hB0 _ _ | exact hBt _ _ | exact ⟨by omega, by omega⟩) (fun σ48 hB e48 o48 f48 => ?_)
      try have u48_0 : σ48 2 5 = σ 2 5 := by first | exact o48 5 (by decide) | exact congrFun (f48 2 (by decide)) 5
      try have u48_1 : σ48 2 6 = σ 2 6 := by first | exact o48 6 (by decide) | exact congrFun (f48 2 (by decide)) 6
      try have u48_2 : σ48 2 7 = σ 2 7 := by first | exact o48 7 (by decide) | exact congrFun (f48 2 (by decide)) 7
      try have u48_3 : σ48 2 8 = σ 2 8 := by first | exact o48 8 (by decide) | exact congrFun (f48 2 (by decide)) 8
      try have u48_4 : σ48 2 9 = σ 2 9 := by first | exact o48 9 (by decide) | exact congrFun (f48 2 (by decide)) 9
      try have u48_5 : σ48 2 10 = σ 2 10 := by first | exact o48 10 (by decide) | exact congrFun (f48 2 (by decide)) 10
      try have u48_6 : σ48 3 1 = σ 3 1 := by first | exact o48 1 (by decide) | exact congrFun (f48 3 (by decide)) 1
      refine pe_aload_n d_E_cut_51 rfl ?_
      refine pe_getr f_E_12 d_E_cut_52 rfl rfl ?_
      refine pe_aload_n d_E_cut_55 rfl ?_
      refine pe_getr f_E_32 d_E_cut_56 rfl rfl ?_
      refine pe_iconst d_E_cut_59 ?_
      refine pe_iload_n d_E_cut_60 rfl ?_
      refine pe_aload_n d_E_cut_61 rfl ?_
      refine pe_geti f_E_102 d_E_cut_62 rfl rfl 5 rfl ?_
      refine pe_v4v d_E_cut_65 c_E_137 i_T_copyTo s_T_copyTo rfl rfl (x_T_copyTo_15 hB (by omega) (by omega) (by omega)) (fun σ65 hz65 => ?_)
      obtain ⟨hB, f65, x65⟩ := hz65
      try have u65_0 : σ65 2 5 = σ48 2 5 := by first | exact o65 5 (by decide) | exact congrFun (f65 2 (by decide)) 5
      try have u65_1 : σ65 2 6 = σ48 2 6 := by first | exact o65 6 (by decide) | exact congrFun (f65 2 (by decide)) 6
      try have u65_2 : σ65 2 7 = σ48 2 7 := by first | exact o65 7 (by decide) | exact congrFun (f65 2 (by decide)) 7
      try have u65_3 : σ65 2 8 = σ48 2 8 := by first | exact o65 8 (by decide) | exact congrFun (f65 2 (by decide)) 8
      try have u65_4 : σ65 2 9 = σ48 2 9 := by first | exact o65 9 (by decide) | exact congrFun (f65 2 (by decide)) 9
      try have u65_5 : σ65 2 10 = σ48 2 10 := by first | exact o65 10 (by decide) | exact congrFun (f65 2 (by decide)) 10
      try have u65_6 : σ65 3 1 = σ48 3 1 := by first | exact o65 1 (by decide) | exact congrFun (f65 3 (by decide)) 1
      have hC := pe_ca_C (p := z28) (q := z40) hA ⟨by omega, by omega, by omega⟩ (fun b hb => (f65 b (by simp at hb ⊢; try omega)).trans ((f48 b (by simp at hb ⊢; try omega)).trans (rfl))) ⟨by omega, fun j hj => (congrFun (f65 2 (by decide)) j).trans (o48 j hj)⟩ (fun j h0 h1 => by rw [x65, if_pos (by omega), f48 4 (by decide)]; exact congrArg (σ 4) (by omega))
      have hC2 := pe_wf_C (p := z28) (q := z40) hw (by omega)
      refine pe_aload_n d_E_cut_68 rfl ?_
      refine pe_iload_n d_E_cut_69 rfl ?_
      refine pe_iload_n d_E_cut_70 rfl ?_
      refine pe_v2v d_E_cut_71 c_E_89 i_E_removeBetween s_E_removeBetween rfl rfl (x_E_removeBetween hB hC hC2 hk (show 0 ≤ z28 ∧ z28 ≤ m 0 0 ∧ 0 ≤ z40 ∧ z40 ≤ m 0 0 by omega)) (fun σ71 hz71 => ?_)
      obtain ⟨hB, f71, x71⟩ := hz71
      try have u71_0 : σ71 2 5 = σ65 2 5 := by first | exact o71 5 (by decide) | exact congrFun (f71 2 (by decide)) 5
      try have u71_1 : σ71 2 6 = σ65 2 6 := by first | exact o71 6 (by decide) | exact congrFun (f71 2 (by decide)) 6
      try have u71_2 : σ71 2 7 = σ65 2 7 := by first | exact o71 7 (by decide) | exact congrFun (f71 2 (by decide)) 7
      try have u71_3 : σ71 2 8 = σ65 2 8 := by first | exact o71 8 (by decide) | exact congrFun (f71 2 (by decide)) 8
      try have u71_4 : σ71 2 9 = σ65 2 9 := by first | exact o71 9 (by decide) | exact congrFun (f71 2 (by decide)) 9
      try have u71_5 : σ71 2 10 = σ65 2 10 := by first | exact o71 10 (by decide) | exact congrFun (f71 2 (by decide)) 10
      try have u71_6 : σ71 3 1 = σ65 3 1 := by first | exact o71 1 (by decide) | exact congrFun (f71 3 (by decide)) 1
      refine pe_rv d_E_cut_74 ?_
      exact ⟨hB, (fun b hb => (f71 b (by simp at hb ⊢; try omega)).trans ((f65 b (by simp at hb ⊢; try omega)).trans ((f48 b (by simp at hb ⊢; try omega)).trans (rfl)))), by
        unfold pe_eCut; rw [if_neg (by omega)]
        by_cases q : m 2 0 < m 1 0
        · rw [if_pos q]; rw [show z28 = m 2 0 by omega, show z40 = m 1 0 by omega] at x71; exact x71
        · rw [if_neg q]; rw [show z28 = m 1 0 by omega, show z40 = m 2 0 by omega] at x71; exact x71⟩
    · skip
      refine pe_rv d_E_cut_19 ?_
      exact ⟨hB, (fun b hb => rfl), by unfold pe_eCut; rw [if_pos (by omega)]; exact hA⟩
theorem x_E_undo0 {m σ : pe_H} (hB : pe_B σ) (hA : pe_ca m σ) (hw : pe_wf m) (hk : m 5 0 ≤ 11) (hz : m 5 0 = 0) : pe_M m_E_undo [pe_r 2] σ (pe_qv (fun σ' => pe_B σ' ∧ (∀ b, b ∉ [2, 3, 4, 5, 6, 7, 8, 9] → σ' b = σ b) ∧ pe_ca (pe_eUndo m) σ')) := by
  refine pe_in0 (lv := [some (pe_r 2), none]) ?_
  have hB0 := hB
  obtain ⟨⟨⟨a1, a2, a3, a4, a5⟩, ⟨a6, a7⟩, a8, a9⟩, A2, A3, A4⟩ := id hA
  obtain ⟨⟨w1, w2, w3, w4, w5, w6, w7, w8⟩, W2, W3⟩ := id hw
  refine pe_aload_n d_E_undo_0 rfl ?_
  refine pe_getr f_E_21 d_E_undo_1 rfl rfl ?_
  refine pe_aload_n d_E_undo_4 rfl ?_
  refine pe_getr f_E_12 d_E_undo_5 rfl rfl ?_
  refine pe_v1p d_E_undo_8 c_E_141 i_H_undoIn s_H_undoIn rfl rfl (x_H_undoIn0 hB (by omega)) (fun z8 hz8 => ?_)
  refine pe_istore_n d_E_undo_11 ?_
  refine pe_iload_n d_E_undo_12 rfl ?_
  refine pe_iconst d_E_undo_13 ?_
  refine pe_icmp_eq (t := 27) d_E_undo_14 (by first | exact hB _ _ | exact hB0 _ _ | exact hBt _ _ | exact ⟨by omega, by omega⟩) (by first | exact hB _ _ | exact hB0 _ _ | exact hBt _ _ | exact ⟨by omega, by omega⟩) (fun h14 => ?_) (fun h14 => ?_)
  · skip
    refine pe_rv d_E_undo_27 ?_
    exact ⟨hB, (fun b hb => rfl), by unfold pe_eUndo; rw [if_pos hz]; exact hA⟩
  · skip
    exfalso; omega
theorem x_E_undo1 {m σ : pe_H} (hB : pe_B σ) (hA : pe_ca m σ) (hw : pe_wf m) (hk : m 5 0 ≤ 11) (hz : 1 ≤ m 5 0) : pe_M m_E_undo [pe_r 2] σ (pe_qv (fun σ' => pe_B σ' ∧ (∀ b, b ∉ [2, 3, 4, 5, 6, 7, 8, 9] → σ' b = σ b) ∧ pe_ca (pe_eUndo m) σ')) := by
  refine pe_in0 (lv := [some (pe_r 2), none]) ?_
  have hB0 := hB
  obtain ⟨⟨⟨a1, a2, a3, a4, a5⟩, ⟨a6, a7⟩, a8, a9⟩, A2, A3, A4⟩ := id hA
  obtain ⟨⟨w1, w2, w3, w4, w5, w6, w7, w8⟩, W2, W3⟩ := id hw
  have hv := A4 (m 5 0 - 1) (by omega) (by omega)
  have hu := (W3 (m 5 0 - 1) (by omega) (by omega))
  have hu2 := hu.2.1 (by omega)
  have hu1 := hu.1
  rw [← a7] at hv
  obtain ⟨hv1, hv2⟩ := hv
  rw [← a7] at hu1 hu2
  refine pe_aload_n d_E_undo_0 rfl ?_
  refine pe_getr f_E_21 d_E_undo_1 rfl rfl ?_
  refine pe_aload_n d_E_undo_4 rfl ?_
  refine pe_getr f_E_12 d_E_undo_5 rfl rfl ?_
  refine pe_v1i d_E_undo_8 c_E_141 i_H_undoIn s_H_undoIn rfl rfl (x_H_undoIn hB (by omega) (by omega) (by omega)) (fun z8 σ8 hz8 => ?_)
  obtain ⟨hB, f8, x8⟩ := hz8
  try have u8_0 : σ8 2 5 = σ 2 5 := by first | exact o8 5 (by decide) | exact congrFun (f8 2 (by decide)) 5
  try have u8_1 : σ8 2 6 = σ 2 6 := by first | exact o8 6 (by decide) | exact congrFun (f8 2 (by decide)) 6
  try have u8_2 : σ8 2 7 = σ 2 7 := by first | exact o8 7 (by decide) | exact congrFun (f8 2 (by decide)) 7
  try have u8_3 : σ8 2 8 = σ 2 8 := by first | exact o8 8 (by decide) | exact congrFun (f8 2 (by decide)) 8
  try have u8_4 : σ8 2 9 = σ 2 9 := by first | exact o8 9 (by decide) | exact congrFun (f8 2 (by decide)) 9
  try have u8_5 : σ8 2 10 = σ 2 10 := by first | exact o8 10 (by decide) | exact congrFun (f8 2 (by decide)) 10
  try have u8_6 : σ8 3 1 = σ 3 1 := by first | exact o8 1 (by decide) | exact congrFun (f8 3 (by decide)) 1
  skip
  refine pe_istore_n d_E_undo_11 ?_
  refine pe_iload_n d_E_undo_12 rfl ?_
  refine pe_iconst d_E_undo_13 ?_
  refine pe_icmp_eq (t := 27) d_E_undo_14 (by first | exact hB _ _ | exact hB0 _ _ | exact hBt _ _ | exact ⟨by omega, by omega⟩) (by first | exact hB _ _ | exact hB0 _ _ | exact hBt _ _ | exact ⟨by omega, by omega⟩) (fun h14 => ?_) (fun h14 => ?_)
  · skip
    refine pe_rv d_E_undo_27 ?_
    first
    | (exfalso; omega)
    | exact ⟨hB, (fun b hb => (f8 b (by simp at hb ⊢; try omega)).trans (rfl)), by
      unfold pe_eUndo; rw [if_neg (by omega), ← a7]
      refine pe_ca_U hA hw ⟨by omega, by omega⟩ ?_ (by omega) (by have p5 := congrFun (rfl) 5; have p6 := congrFun (rfl) 6; omega) ⟨⟨((f8 15 (by decide)).trans (rfl)), ((f8 10 (by decide)).trans (rfl))⟩, ((f8 6 (by decide)).trans (rfl)), ((f8 7 (by decide)).trans (rfl)), ((f8 8 (by decide)).trans (rfl)), ((f8 9 (by decide)).trans (rfl))⟩
      exact x8.2.imp (fun h => ⟨h.1, pe_ins_c h.2 ⟨rfl, rfl, (rfl), (rfl)⟩⟩) (fun h => ⟨h.1, pe_del_c h.2 ⟨rfl, rfl, (rfl), (rfl)⟩⟩)⟩
  · skip
    refine pe_aload_n d_E_undo_17 rfl ?_
    refine pe_iload_n d_E_undo_18 rfl ?_
    refine pe_putiT f_E_78 g_2_7 d_E_undo_19 rfl rfl 7 rfl hB (by first | exact hB _ _ | exact hB0 _ _ | exact hBt _ _ | exact ⟨by omega, by omega⟩) (fun σ19 hB e19 o19 f19 => ?_)
    try have u19_0 : σ19 2 5 = σ8 2 5 := by first | exact o19 5 (by decide) | exact congrFun (f19 2 (by decide)) 5
    try have u19_1 : σ19 2 6 = σ8 2 6 := by first | exact o19 6 (by decide) | exact congrFun (f19 2 (by decide)) 6
    try have u19_2 : σ19 2 7 = σ8 2 7 := by first | exact o19 7 (by decide) | exact congrFun (f19 2 (by decide)) 7
    try have u19_3 : σ19 2 8 = σ8 2 8 := by first | exact o19 8 (by decide) | exact congrFun (f19 2 (by decide)) 8
    try have u19_4 : σ19 2 9 = σ8 2 9 := by first | exact o19 9 (by decide) | exact congrFun (f19 2 (by decide)) 9
    try have u19_5 : σ19 2 10 = σ8 2 10 := by first | exact o19 10 (by decide) | exact congrFun (f19 2 (by decide)) 10
    try have u19_6 : σ19 3 1 = σ8 3 1 := by first | exact o19 1 (by decide) | exact congrFun (f19 3 (by decide)) 1
    refine pe_aload_n d_E_undo_22 rfl ?_
    refine pe_iconst d_E_undo_23 ?_
    refine pe_putiT f_E_39 g_2_8 d_E_undo_24 rfl rfl 8 rfl hB (by first | exact hB _ _ | exact hB0 _ _ | exact hBt _ _ | exact ⟨by omega, by omega⟩) (fun σ24 hB e24 o24 f24 => ?_)
    try have u24_0 : σ24 2 5 = σ19 2 5 := by first | exact o24 5 (by decide) | exact congrFun (f24 2 (by decide)) 5
    try have u24_1 : σ24 2 6 = σ19 2 6 := by first | exact o24 6 (by decide) | exact congrFun (f24 2 (by decide)) 6
    try have u24_2 : σ24 2 7 = σ19 2 7 := by first | exact o24 7 (by decide) | exact congrFun (f24 2 (by decide)) 7
    try have u24_3 : σ24 2 8 = σ19 2 8 := by first | exact o24 8 (by decide) | exact congrFun (f24 2 (by decide)) 8
    try have u24_4 : σ24 2 9 = σ19 2 9 := by first | exact o24 9 (by decide) | exact congrFun (f24 2 (by decide)) 9
    try have u24_5 : σ24 2 10 = σ19 2 10 := by first | exact o24 10 (by decide) | exact congrFun (f24 2 (by decide)) 10
    try have u24_6 : σ24 3 1 = σ19 3 1 := by first | exact o24 1 (by decide) | exact congrFun (f24 3 (by decide)) 1
    refine pe_rv d_E_undo_27 ?_
    first
    | (exfalso; omega)
    | exact ⟨hB, (fun b hb => (f24 b (by simp at hb ⊢; try omega)).trans ((f19 b (by simp at hb ⊢; try omega)).trans ((f8 b (by simp at hb ⊢; try omega)).trans (rfl)))), by
      unfold pe_eUndo; rw [if_neg (by omega), ← a7]
      refine pe_ca_U hA hw ⟨by omega, by omega⟩ ?_ (by omega) (by have p5 := congrFun ((f24 5 (by decide)).trans ((f19 5 (by decide)).trans (rfl))) 5; have p6 := congrFun ((f24 5 (by decide)).trans ((f19 5 (by decide)).trans (rfl))) 6; omega) ⟨⟨((f24 15 (by decide)).trans ((f19 15 (by decide)).trans ((f8 15 (by decide)).trans (rfl)))), ((f24 10 (by decide)).trans ((f19 10 (by decide)).trans ((f8 10 (by decide)).trans (rfl))))⟩, ((f24 6 (by decide)).trans ((f19 6 (by decide)).trans ((f8 6 (by decide)).trans (rfl)))), ((f24 7 (by decide)).trans ((f19 7 (by decide)).trans ((f8 7 (by decide)).trans (rfl)))), ((f24 8 (by decide)).trans ((f19 8 (by decide)).trans ((f8 8 (by decide)).trans (rfl)))), ((f24 9 (by decide)).trans ((f19 9 (by decide)).trans ((f8 9 (by decide)).trans (rfl))))⟩
      exact x8.2.imp (fun h => ⟨h.1, pe_ins_c h.2 ⟨rfl, rfl, ((f24 3 (by decide)).trans ((f19 3 (by decide)).trans (rfl))), ((f24 4 (by decide)).trans ((f19 4 (by decide)).trans (rfl)))⟩⟩) (fun h => ⟨h.1, pe_del_c h.2 ⟨rfl, rfl, ((f24 3 (by decide)).trans ((f19 3 (by decide)).trans (rfl))), ((f24 4 (by decide)).trans ((f19 4 (by decide)).trans (rfl)))⟩⟩)⟩
theorem x_E_undo {m σ : pe_H} (hB : pe_B σ) (hA : pe_ca m σ) (hw : pe_wf m) (hk : m 5 0 ≤ 11) : pe_M m_E_undo [pe_r 2] σ (pe_qv (fun σ' => pe_B σ' ∧ (∀ b, b ∉ [2, 3, 4, 5, 6, 7, 8, 9] → σ' b = σ b) ∧ pe_ca (pe_eUndo m) σ')) := by
  by_cases h : m 5 0 = 0
  · exact x_E_undo0 hB hA hw hk h
  · exact x_E_undo1 hB hA hw hk (by have := hw.1.2.2.2.2.2.1; omega)
