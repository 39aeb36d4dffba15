/-! p1: the reference's edits keep to the model -/
def pe_mq (m σ τ : pe_H) (p i o : Int) : Prop := ((τ 29 3 = -1 ∧ τ 29 7 = m 5 0 + 1) ∧ (τ 32 (m 5 0) = p ∧ τ 33 (m 5 0) = i ∧ τ 34 (m 5 0) = o ∧ τ 35 (m 5 0) = m 1 0) ∧ ∀ q, q ≠ m 5 0 → τ 32 q = σ 32 q ∧ τ 33 q = σ 33 q ∧ τ 34 q = σ 34 q ∧ τ 35 q = σ 35 q) ∧ (∀ j, 0 ≤ j → j < o → τ 36 (m 5 0 * 200 + j) = σ 30 (p + j)) ∧ ∀ j, j < m 5 0 * 200 → τ 36 j = σ 36 j
theorem pe_mq_of {m σ a τ : pe_H} {p i o : Int} (h : pe_mn σ a p i o ∧ (∀ j, 0 ≤ j → j < o → a 36 (σ 29 7 * 200 + j) = σ 30 (p + j)) ∧ ∀ j, j < σ 29 7 * 200 → a 36 j = σ 36 j) (e7 : σ 29 7 = m 5 0) (e2 : σ 29 2 = m 1 0) (e : τ 32 = a 32 ∧ τ 33 = a 33 ∧ τ 34 = a 34 ∧ τ 35 = a 35 ∧ τ 36 = a 36) (f : τ 29 3 = a 29 3 ∧ τ 29 7 = a 29 7) : pe_mq m σ τ p i o := by
  unfold pe_mn at h
  rw [e7, e2] at h
  unfold pe_mq
  rw [f.1, f.2, e.1, e.2.1, e.2.2.1, e.2.2.2.1, e.2.2.2.2]
  exact h
theorem pe_mq_c {m σ a τ : pe_H} {p i o : Int} (h : pe_mq m σ a p i o) (e : τ 32 = a 32 ∧ τ 33 = a 33 ∧ τ 34 = a 34 ∧ τ 35 = a 35 ∧ τ 36 = a 36) (f : τ 29 3 = a 29 3 ∧ τ 29 7 = a 29 7) : pe_mq m σ τ p i o := by
  unfold pe_mq at h ⊢
  rw [f.1, f.2, e.1, e.2.1, e.2.2.1, e.2.2.2.1, e.2.2.2.2]
  exact h
theorem pe_rb_I {m σ σ' : pe_H} {n : Int} {s : Int → Int} (hA : pe_ra m σ) (hw : pe_wf m) (hn : 0 ≤ n) (h29 : σ' 29 1 = m 0 0 + n ∧ σ' 29 5 = m 3 0 ∧ σ' 29 6 = m 4 0 ∧ σ' 29 19 = m 6 0 ∧ σ' 29 21 = m 7 0) (hq : pe_mq m σ σ' (m 1 0) n 0) (ht : ∀ j, 0 ≤ j → j < m 0 0 + n → (j < m 1 0 → σ' 30 j = σ 30 j) ∧ (m 1 0 ≤ j → j < m 1 0 + n → σ' 30 j = s (j - m 1 0)) ∧ (m 1 0 + n ≤ j → σ' 30 j = σ 30 (j - n))) (h31 : σ' 31 = σ 31) : pe_rb (pe_eI m n s) σ' := by
  obtain ⟨⟨⟨a1, a2, a3, a4, a5⟩, a7, a8, a9⟩, A2, A3, A4⟩ := hA
  obtain ⟨⟨⟨k1, k2⟩, ⟨k3, k4, k5, k6⟩, k7⟩, _, k8⟩ := hq
  have w2 := hw.1.2.1
  refine ⟨⟨⟨h29.1, k1, h29.2.1, h29.2.2.1⟩, k2, h29.2.2.2⟩, ?_, ?_, ?_⟩
  · intro j h0 h1
    have h1' : j < m 0 0 + n := h1
    obtain ⟨t1, t2, t3⟩ := ht j h0 h1'
    show σ' 30 j = if j < m 1 0 then m 8 j else if j < m 1 0 + n then s (j - m 1 0) else m 8 (j - n)
    by_cases q : j < m 1 0
    · rw [if_pos q, t1 q]; exact A2 j h0 (by omega)
    · rw [if_neg q]
      by_cases q2 : j < m 1 0 + n
      · rw [if_pos q2]; exact t2 (by omega) q2
      · rw [if_neg q2, t3 (by omega)]; exact A2 _ (by omega) (by omega)
  · intro j h0 h1
    rw [h31]; exact A3 j h0 h1
  · intro i h0 h1
    have h1' : i < m 5 0 + 1 := h1
    show (σ' 32 i = (if i = m 5 0 then m 1 0 else m 10 i) ∧ σ' 33 i = (if i = m 5 0 then n else m 11 i) ∧ σ' 34 i = (if i = m 5 0 then 0 else m 12 i) ∧ σ' 35 i = (if i = m 5 0 then m 1 0 else m 13 i)) ∧ ∀ j, 0 ≤ j → j < (if i = m 5 0 then 0 else m 12 i) → σ' 36 (i * 200 + j) = m 14 (i * 200 + j)
    by_cases q : i = m 5 0
    · simp only [if_pos q]
      rw [q]; exact ⟨⟨k3, k4, k5, k6⟩, fun j a b => absurd b (by omega)⟩
    · simp only [if_neg q]
      obtain ⟨e1, e2, e3, e4⟩ := k7 i q
      obtain ⟨b1, b2⟩ := A4 i h0 (by omega)
      have w := (hw.2.2 i h0 (by omega)).1
      rw [e1, e2, e3, e4]
      exact ⟨b1, fun j a b => by rw [k8 _ (by omega)]; exact b2 j a b⟩
theorem pe_rb_D {m σ σ' : pe_H} {p q : Int} (hA : pe_ra m σ) (hw : pe_wf m) (hc : 0 ≤ p ∧ p < q ∧ q ≤ m 0 0) (h29 : σ' 29 1 = m 0 0 - (q - p) ∧ σ' 29 5 = m 3 0 ∧ σ' 29 6 = m 4 0 ∧ σ' 29 19 = m 6 0 ∧ σ' 29 21 = m 7 0) (hq : pe_mq m σ σ' p 0 (q - p)) (ht : ∀ j, 0 ≤ j → j < m 0 0 - (q - p) → (j < p → σ' 30 j = σ 30 j) ∧ (p ≤ j → σ' 30 j = σ 30 (j + (q - p)))) (h31 : σ' 31 = σ 31) : pe_rb (pe_eD m p q) σ' := by
  obtain ⟨⟨⟨a1, a2, a3, a4, a5⟩, a7, a8, a9⟩, A2, A3, A4⟩ := hA
  obtain ⟨⟨⟨k1, k2⟩, ⟨k3, k4, k5, k6⟩, k7⟩, k9, k8⟩ := hq
  refine ⟨⟨⟨h29.1, k1, h29.2.1, h29.2.2.1⟩, k2, h29.2.2.2⟩, ?_, ?_, ?_⟩
  · intro j h0 h1
    have h1' : j < m 0 0 - (q - p) := h1
    obtain ⟨t1, t2⟩ := ht j h0 h1'
    show σ' 30 j = if j < p then m 8 j else m 8 (j + (q - p))
    by_cases w : j < p
    · rw [if_pos w, t1 w]; exact A2 j h0 (by omega)
    · rw [if_neg w, t2 (by omega)]; exact A2 _ (by omega) (by omega)
  · intro j h0 h1
    rw [h31]; exact A3 j h0 h1
  · intro i h0 h1
    have h1' : i < m 5 0 + 1 := h1
    show (σ' 32 i = (if i = m 5 0 then p else m 10 i) ∧ σ' 33 i = (if i = m 5 0 then 0 else m 11 i) ∧ σ' 34 i = (if i = m 5 0 then q - p else m 12 i) ∧ σ' 35 i = (if i = m 5 0 then m 1 0 else m 13 i)) ∧ ∀ j, 0 ≤ j → j < (if i = m 5 0 then q - p else m 12 i) → σ' 36 (i * 200 + j) = if m 5 0 * 200 ≤ i * 200 + j then m 8 (p + (i * 200 + j - m 5 0 * 200)) else m 14 (i * 200 + j)
    by_cases w : i = m 5 0
    · simp only [if_pos w]
      subst w
      refine ⟨⟨k3, k4, k5, k6⟩, fun j a b => ?_⟩
      rw [if_pos (by omega), k9 j a b, A2 _ (by omega) (by omega)]
      exact congrArg (m 8) (by omega)
    · simp only [if_neg w]
      obtain ⟨e1, e2, e3, e4⟩ := k7 i w
      obtain ⟨b1, b2⟩ := A4 i h0 (by omega)
      have u := (hw.2.2 i h0 (by omega)).1
      rw [e1, e2, e3, e4]
      exact ⟨b1, fun j a b => by rw [if_neg (by omega), k8 _ (by omega)]; exact b2 j a b⟩
theorem pe_rb_U {m σ σ' : pe_H} {i : Int} (hA : pe_ra m σ) (hw : pe_wf m) (hi : 0 ≤ i ∧ i + 1 = m 5 0) (h29 : (σ' 29 1 = m 0 0 - m 11 i + m 12 i ∧ σ' 29 3 = -1 ∧ σ' 29 5 = m 3 0 ∧ σ' 29 6 = m 4 0) ∧ σ' 29 7 = i ∧ σ' 29 19 = m 6 0 ∧ σ' 29 21 = m 7 0) (ht : ∀ j, 0 ≤ j → j < m 0 0 - m 11 i + m 12 i → (j < m 10 i → σ' 30 j = σ 30 j) ∧ (m 10 i ≤ j → j < m 10 i + m 12 i → σ' 30 j = σ 36 (i * 200 + (j - m 10 i))) ∧ (m 10 i + m 12 i ≤ j → σ' 30 j = σ 30 (j - m 12 i + m 11 i))) (hf : σ' 31 = σ 31 ∧ σ' 32 = σ 32 ∧ σ' 33 = σ 33 ∧ σ' 34 = σ 34 ∧ σ' 35 = σ 35 ∧ σ' 36 = σ 36) : pe_rb (pe_eU m i) σ' := by
  obtain ⟨⟨⟨a1, a2, a3, a4, a5⟩, a7, a8, a9⟩, A2, A3, A4⟩ := hA
  obtain ⟨w1, w2, w3⟩ := hw.2.2 i hi.1 (by omega)
  have w2 := w2 hi.2
  refine ⟨h29, ?_, ?_, ?_⟩
  · intro j h0 h1
    have h1' : j < m 0 0 - m 11 i + m 12 i := h1
    obtain ⟨t1, t2, t3⟩ := ht j h0 h1'
    show σ' 30 j = if j < m 10 i then m 8 j else if j < m 10 i + m 12 i then m 14 (i * 200 + (j - m 10 i)) else m 8 (j - m 12 i + m 11 i)
    by_cases q : j < m 10 i
    · rw [if_pos q, t1 q]; exact A2 j h0 (by omega)
    · rw [if_neg q]
      by_cases q2 : j < m 10 i + m 12 i
      · rw [if_pos q2, t2 (by omega) q2]; exact (A4 i hi.1 (by omega)).2 _ (by omega) (by omega)
      · rw [if_neg q2, t3 (by omega)]; exact A2 _ (by omega) (by omega)
  · intro j h0 h1
    rw [hf.1]; exact A3 j h0 h1
  · intro k h0 h1
    have h1' : k < i := h1
    rw [hf.2.1, hf.2.2.1, hf.2.2.2.1, hf.2.2.2.2.1, hf.2.2.2.2.2]
    exact A4 k h0 (by omega)
theorem pe_ra_C {m σ σ' : pe_H} {p q : Int} (hA : pe_ra m σ) (h : 0 ≤ p ∧ p ≤ q ∧ q ≤ m 0 0) (f : ∀ b, b ∉ [29, 31] → σ' b = σ b) (h5 : σ' 29 5 = q - p) (o : ∀ j, j ∉ ([5] : List Int) → σ' 29 j = σ 29 j) (g : ∀ j, 0 ≤ j → j < q - p → σ' 31 j = σ 30 (p + j)) : pe_ra (pe_eC m p q) σ' := by
  obtain ⟨⟨⟨a1, a2, a3, a4, a5⟩, a7, a8, a9⟩, A2, A3, A4⟩ := hA
  refine ⟨⟨⟨?_, ?_, ?_, h5, ?_⟩, ?_, ?_, ?_⟩, ?_, ?_, ?_⟩
  · rw [o 1 (by decide)]; exact a1
  · rw [o 2 (by decide)]; exact a2
  · rw [o 3 (by decide)]; exact a3
  · rw [o 6 (by decide)]; exact a5
  · rw [o 7 (by decide)]; exact a7
  · rw [o 19 (by decide)]; exact a8
  · rw [o 21 (by decide)]; exact a9
  · rw [f 30 (by decide)]; exact A2
  · intro j h0 h1
    have h1' : j < q - p := h1
    show σ' 31 j = m 8 (p + j)
    rw [g j h0 h1', A2 _ (by omega) (by omega)]
  · rw [f 32 (by decide), f 33 (by decide), f 34 (by decide), f 35 (by decide), f 36 (by decide)]; exact A4
theorem x_M_insertOne {m σ : pe_H} {c : Int} (hB : pe_B σ) (hA : pe_ra m σ) (hw : pe_wf m) (hk : m 5 0 ≤ 11) (hg : pe_bg (m 8) (m 0 0) (m 1 0)) (hc : pe_R c) : pe_M m_M_insertOne [pe_r 29, pe_i c] σ (pe_qv (fun σ' => pe_B σ' ∧ (∀ b, b ∉ [29, 30, 32, 33, 34, 35, 36] → σ' b = σ b) ∧ (∀ j, j ∉ ([1, 2, 3, 7] : List Int) → σ' 29 j = σ 29 j) ∧ pe_ra (pe_eB (pe_eIns m 1 (fun _ => c))) σ')) := by
  refine pe_in0 (lv := [some (pe_r 29), some (pe_i c)]) ?_
  have hB0 := hB
  obtain ⟨⟨⟨a1, a2, a3, a4, a5⟩, a7, a8, a9⟩, A2, A3, A4⟩ := id hA
  obtain ⟨⟨w1, w2, w3, w4, w5, w6, w7, w8⟩, W2, W3⟩ := id hw
  refine pe_aload_n d_M_insertOne_0 rfl ?_
  refine pe_geti f_M_87 d_M_insertOne_1 rfl rfl 1 rfl ?_
  refine pe_sipush d_M_insertOne_4 ?_
  refine pe_icmp_ne (t := 11) d_M_insertOne_7 (by first | exact hB _ _ | exact hB0 _ _ | exact hBt _ _ | exact ⟨by omega, by omega⟩) (by first | exact hB _ _ | exact hB0 _ _ | exact hBt _ _ | exact ⟨by omega, by omega⟩) (fun h7 => ?_) (fun h7 => ?_)
  · skip
    refine pe_aload_n d_M_insertOne_11 rfl ?_
    refine pe_aload_n d_M_insertOne_12 rfl ?_
    refine pe_geti f_M_117 d_M_insertOne_13 rfl rfl 2 rfl ?_
    refine pe_iconst d_M_insertOne_16 ?_
    refine pe_iconst d_M_insertOne_17 ?_
    refine pe_v3v d_M_insertOne_18 c_M_120 i_M_note s_M_note rfl rfl (x_M_note hB (by omega) (by omega) (by omega) (by omega)) (fun σ18 hz18 => ?_)
    obtain ⟨hB, f18, o18, x18⟩ := hz18
    try have u18_0 : σ18 29 1 = σ 29 1 := by first | exact o18 1 (by decide) | exact congrFun (f18 29 (by decide)) 1
    try have u18_1 : σ18 29 2 = σ 29 2 := by first | exact o18 2 (by decide) | exact congrFun (f18 29 (by decide)) 2
    try have u18_2 : σ18 29 3 = σ 29 3 := by first | exact o18 3 (by decide) | exact congrFun (f18 29 (by decide)) 3
    try have u18_3 : σ18 29 5 = σ 29 5 := by first | exact o18 5 (by decide) | exact congrFun (f18 29 (by decide)) 5
    try have u18_4 : σ18 29 6 = σ 29 6 := by first | exact o18 6 (by decide) | exact congrFun (f18 29 (by decide)) 6
    try have u18_5 : σ18 29 7 = σ 29 7 := by first | exact o18 7 (by decide) | exact congrFun (f18 29 (by decide)) 7
    try have u18_6 : σ18 29 19 = σ 29 19 := by first | exact o18 19 (by decide) | exact congrFun (f18 29 (by decide)) 19
    try have u18_7 : σ18 29 21 = σ 29 21 := by first | exact o18 21 (by decide) | exact congrFun (f18 29 (by decide)) 21
    refine pe_aload_n d_M_insertOne_21 rfl ?_
    refine pe_aload_n d_M_insertOne_22 rfl ?_
    refine pe_geti f_M_117 d_M_insertOne_23 rfl rfl 2 rfl ?_
    refine pe_iconst d_M_insertOne_26 ?_
    refine pe_v2v d_M_insertOne_27 c_M_124 i_M_open s_M_open rfl rfl (x_M_open hB (by omega) (by omega) (by omega)) (fun σ27 hz27 => ?_)
    obtain ⟨hB, f27, o27, x27⟩ := hz27
    try have u27_0 : σ27 29 1 = σ18 29 1 := by first | exact o27 1 (by decide) | exact congrFun (f27 29 (by decide)) 1
    try have u27_1 : σ27 29 2 = σ18 29 2 := by first | exact o27 2 (by decide) | exact congrFun (f27 29 (by decide)) 2
    try have u27_2 : σ27 29 3 = σ18 29 3 := by first | exact o27 3 (by decide) | exact congrFun (f27 29 (by decide)) 3
    try have u27_3 : σ27 29 5 = σ18 29 5 := by first | exact o27 5 (by decide) | exact congrFun (f27 29 (by decide)) 5
    try have u27_4 : σ27 29 6 = σ18 29 6 := by first | exact o27 6 (by decide) | exact congrFun (f27 29 (by decide)) 6
    try have u27_5 : σ27 29 7 = σ18 29 7 := by first | exact o27 7 (by decide) | exact congrFun (f27 29 (by decide)) 7
    try have u27_6 : σ27 29 19 = σ18 29 19 := by first | exact o27 19 (by decide) | exact congrFun (f27 29 (by decide)) 19
    try have u27_7 : σ27 29 21 = σ18 29 21 := by first | exact o27 21 (by decide) | exact congrFun (f27 29 (by decide)) 21
    refine pe_aload_n d_M_insertOne_30 rfl ?_
    refine pe_getr f_M_7 d_M_insertOne_31 rfl rfl ?_
    refine pe_aload_n d_M_insertOne_34 rfl ?_
    refine pe_geti f_M_117 d_M_insertOne_35 rfl rfl 2 rfl ?_
    refine pe_iload_n d_M_insertOne_38 rfl ?_
    refine pe_iastT d_M_insertOne_39 rfl (by omega) (by omega) hB (by first | exact hB _ _ | exact hB0 _ _ | exact hBt _ _ | exact ⟨by omega, by omega⟩) (fun σ39 hB e39 o39 f39 => ?_)
    try have u39_0 : σ39 29 1 = σ27 29 1 := by first | exact o39 1 (by decide) | exact congrFun (f39 29 (by decide)) 1
    try have u39_1 : σ39 29 2 = σ27 29 2 := by first | exact o39 2 (by decide) | exact congrFun (f39 29 (by decide)) 2
    try have u39_2 : σ39 29 3 = σ27 29 3 := by first | exact o39 3 (by decide) | exact congrFun (f39 29 (by decide)) 3
    try have u39_3 : σ39 29 5 = σ27 29 5 := by first | exact o39 5 (by decide) | exact congrFun (f39 29 (by decide)) 5
    try have u39_4 : σ39 29 6 = σ27 29 6 := by first | exact o39 6 (by decide) | exact congrFun (f39 29 (by decide)) 6
    try have u39_5 : σ39 29 7 = σ27 29 7 := by first | exact o39 7 (by decide) | exact congrFun (f39 29 (by decide)) 7
    try have u39_6 : σ39 29 19 = σ27 29 19 := by first | exact o39 19 (by decide) | exact congrFun (f39 29 (by decide)) 19
    try have u39_7 : σ39 29 21 = σ27 29 21 := by first | exact o39 21 (by decide) | exact congrFun (f39 29 (by decide)) 21
    refine pe_aload_n d_M_insertOne_40 rfl ?_
    refine pe_aload_n d_M_insertOne_41 rfl ?_
    refine pe_geti f_M_117 d_M_insertOne_42 rfl rfl 2 rfl ?_
    refine pe_iconst d_M_insertOne_45 ?_
    refine pe_iadd d_M_insertOne_46 ?_
    refine pe_v1v d_M_insertOne_47 c_M_128 i_M_settle s_M_settle rfl rfl (x_M_settle hB (by omega) (by omega)) (fun σ47 hz47 => ?_)
    obtain ⟨hB, f47, o47, x47⟩ := hz47
    try have u47_0 : σ47 29 1 = σ39 29 1 := by first | exact o47 1 (by decide) | exact congrFun (f47 29 (by decide)) 1
    try have u47_1 : σ47 29 2 = σ39 29 2 := by first | exact o47 2 (by decide) | exact congrFun (f47 29 (by decide)) 2
    try have u47_2 : σ47 29 3 = σ39 29 3 := by first | exact o47 3 (by decide) | exact congrFun (f47 29 (by decide)) 3
    try have u47_3 : σ47 29 5 = σ39 29 5 := by first | exact o47 5 (by decide) | exact congrFun (f47 29 (by decide)) 5
    try have u47_4 : σ47 29 6 = σ39 29 6 := by first | exact o47 6 (by decide) | exact congrFun (f47 29 (by decide)) 6
    try have u47_5 : σ47 29 7 = σ39 29 7 := by first | exact o47 7 (by decide) | exact congrFun (f47 29 (by decide)) 7
    try have u47_6 : σ47 29 19 = σ39 29 19 := by first | exact o47 19 (by decide) | exact congrFun (f47 29 (by decide)) 19
    try have u47_7 : σ47 29 21 = σ39 29 21 := by first | exact o47 21 (by decide) | exact congrFun (f47 29 (by decide)) 21
    refine pe_rv d_M_insertOne_50 ?_
    have T : σ18 30 = σ 30 := f18 30 (by decide)
    rw [a2] at x18
    have hb : pe_rb (pe_eI m 1 (fun _ => c)) σ47 := by
      refine pe_rb_I hA hw (by omega) (by omega) (pe_mq_of x18 a7 a2 ⟨((f47 32 (by decide)).trans ((f39 32 (by decide)).trans ((f27 32 (by decide)).trans (rfl)))), ((f47 33 (by decide)).trans ((f39 33 (by decide)).trans ((f27 33 (by decide)).trans (rfl)))), ((f47 34 (by decide)).trans ((f39 34 (by decide)).trans ((f27 34 (by decide)).trans (rfl)))), ((f47 35 (by decide)).trans ((f39 35 (by decide)).trans ((f27 35 (by decide)).trans (rfl)))), ((f47 36 (by decide)).trans ((f39 36 (by decide)).trans ((f27 36 (by decide)).trans (rfl))))⟩ (by omega)) (fun j h0 h1 => ?_) ((f47 31 (by decide)).trans ((f39 31 (by decide)).trans ((f27 31 (by decide)).trans ((f18 31 (by decide)).trans (rfl)))))
      rw [f47 30 (by decide)]
      refine ⟨fun q => ?_, fun q q2 => ?_, fun q => ?_⟩
      · rw [o39 j (by omega), x27.2.1 j (by omega), T]
      · rw [show j = σ27 29 2 by omega, e39]
      · rw [o39 j (by omega), x27.2.2 j (by omega) (by omega), T]
    have hz : m 1 0 + 1 ≤ σ47 29 2 ∧ pe_bg (σ47 30) (m 0 0 + 1) (σ47 29 2) ∧ ∀ j, m 1 0 + 1 ≤ j → j < σ47 29 2 → ¬ pe_bg (σ47 30) (m 0 0 + 1) j := by
      rw [f47 30 (by decide), show m 0 0 + 1 = σ39 29 1 by omega, show m 1 0 + 1 = σ39 29 2 + 1 by omega]
      exact ⟨x47.1.1, x47.2⟩
    exact ⟨hB, (fun b hb => (f47 b (by simp at hb ⊢; try omega)).trans ((f39 b (by simp at hb ⊢; try omega)).trans ((f27 b (by simp at hb ⊢; try omega)).trans ((f18 b (by simp at hb ⊢; try omega)).trans (rfl))))), (fun j hj => (o47 j (by simp at hj ⊢; try omega)).trans ((congrFun (f39 29 (by decide)) j).trans ((o27 j (by simp at hj ⊢; try omega)).trans ((o18 j (by simp at hj ⊢; try omega)).trans (rfl))))), by
      unfold pe_eIns; rw [if_neg (by omega)]
      exact pe_ra_B hb (show 0 ≤ m 1 0 + 1 by omega) hz⟩
  · skip
    refine pe_rv d_M_insertOne_10 ?_
    exact ⟨hB, (fun b hb => rfl), (fun j hj => rfl), by unfold pe_eIns; rw [if_pos (by omega)]; exact pe_ra_Bs hA w2.1 hg⟩
theorem x_M_insertClip {m σ : pe_H} (hB : pe_B σ) (hA : pe_ra m σ) (hw : pe_wf m) (hk : m 5 0 ≤ 11) (hg : pe_bg (m 8) (m 0 0) (m 1 0)) : pe_M m_M_insertClip [pe_r 29] σ (pe_qv (fun σ' => pe_B σ' ∧ (∀ b, b ∉ [29, 30, 32, 33, 34, 35, 36] → σ' b = σ b) ∧ (∀ j, j ∉ ([1, 2, 3, 7] : List Int) → σ' 29 j = σ 29 j) ∧ pe_ra (pe_eB (pe_eIns m (m 3 0) (m 9))) σ')) := by
  refine pe_in0 (lv := [some (pe_r 29), none]) ?_
  have hB0 := hB
  obtain ⟨⟨⟨a1, a2, a3, a4, a5⟩, a7, a8, a9⟩, A2, A3, A4⟩ := id hA
  obtain ⟨⟨w1, w2, w3, w4, w5, w6, w7, w8⟩, W2, W3⟩ := id hw
  have J50 : ∀ x : Int × pe_H, (pe_B x.2 ∧ (∀ b, b ∉ [29, 30, 32, 33, 34, 35, 36] → x.2 b = σ b) ∧ (∀ j, j ∉ ([1, 3, 7] : List Int) → x.2 29 j = σ 29 j) ∧ (x.2 29 1 = m 0 0 + m 3 0 ∧ m 0 0 + m 3 0 ≤ 200 ∧ m 3 0 ≠ 0) ∧ pe_mq m σ x.2 (m 1 0) (m 3 0) 0 ∧ (∀ j, 0 ≤ j → j < m 0 0 + m 3 0 → (j < m 1 0 → x.2 30 j = σ 30 j) ∧ (m 1 0 ≤ j → j < m 1 0 + x.1 → x.2 30 j = m 9 (j - m 1 0)) ∧ (m 1 0 + m 3 0 ≤ j → x.2 30 j = σ 30 (j - m 3 0))) ∧ (0 ≤ x.1 ∧ x.1 ≤ m 3 0)) → pe_G m_M_insertClip 50 [some (pe_r 29), some (pe_i x.1)] [] x.2 (pe_qv (fun σ' => pe_B σ' ∧ (∀ b, b ∉ [29, 30, 32, 33, 34, 35, 36] → σ' b = σ b) ∧ (∀ j, j ∉ ([1, 2, 3, 7] : List Int) → σ' 29 j = σ 29 j) ∧ pe_ra (pe_eB (pe_eIns m (m 3 0) (m 9))) σ')) := by
    refine pe_loop (fun x : Int × pe_H => (300 - x.1).toNat) _ _ ?_
    intro x hI ih
    obtain ⟨k, τ⟩ := x
    dsimp only at hI ⊢
    obtain ⟨hB, hfr, hX⟩ := hI
    obtain ⟨hor, h1, hQ, hT, hX⟩ := hX
    have v2 : τ 29 2 = σ 29 2 := hor 2 (by decide)
    have v5 : τ 29 5 = σ 29 5 := hor 5 (by decide)
    have v6 : τ 29 6 = σ 29 6 := hor 6 (by decide)
    have v19 : τ 29 19 = σ 29 19 := hor 19 (by decide)
    have v21 : τ 29 21 = σ 29 21 := hor 21 (by decide)
    have v37 := hQ.1.1
    have v31 : τ 31 = σ 31 := hfr 31 (by decide)
    have hBt := hB
    refine pe_iload_n d_M_insertClip_50 rfl ?_
    refine pe_aload_n d_M_insertClip_51 rfl ?_
    refine pe_geti f_M_132 d_M_insertClip_52 rfl rfl 5 rfl ?_
    refine pe_icmp_ge (t := 81) d_M_insertClip_55 (by first | exact hB _ _ | exact hB0 _ _ | exact hBt _ _ | exact ⟨by omega, by omega⟩) (by first | exact hB _ _ | exact hB0 _ _ | exact hBt _ _ | exact ⟨by omega, by omega⟩) (fun h55 => ?_) (fun h55 => ?_)
    · skip
      refine pe_aload_n d_M_insertClip_81 rfl ?_
      refine pe_aload_n d_M_insertClip_82 rfl ?_
      refine pe_geti f_M_117 d_M_insertClip_83 rfl rfl 2 rfl ?_
      refine pe_aload_n d_M_insertClip_86 rfl ?_
      refine pe_geti f_M_132 d_M_insertClip_87 rfl rfl 5 rfl ?_
      refine pe_iadd d_M_insertClip_90 ?_
      refine pe_v1v d_M_insertClip_91 c_M_128 i_M_settle s_M_settle rfl rfl (x_M_settle hB (by omega) (by omega)) (fun σ91 hz91 => ?_)
      obtain ⟨hB, f91, o91, x91⟩ := hz91
      try have u91_0 : σ91 29 1 = τ 29 1 := by first | exact o91 1 (by decide) | exact congrFun (f91 29 (by decide)) 1
      try have u91_1 : σ91 29 2 = τ 29 2 := by first | exact o91 2 (by decide) | exact congrFun (f91 29 (by decide)) 2
      try have u91_2 : σ91 29 3 = τ 29 3 := by first | exact o91 3 (by decide) | exact congrFun (f91 29 (by decide)) 3
      try have u91_3 : σ91 29 5 = τ 29 5 := by first | exact o91 5 (by decide) | exact congrFun (f91 29 (by decide)) 5
      try have u91_4 : σ91 29 6 = τ 29 6 := by first | exact o91 6 (by decide) | exact congrFun (f91 29 (by decide)) 6
      try have u91_5 : σ91 29 7 = τ 29 7 := by first | exact o91 7 (by decide) | exact congrFun (f91 29 (by decide)) 7
      try have u91_6 : σ91 29 19 = τ 29 19 := by first | exact o91 19 (by decide) | exact congrFun (f91 29 (by decide)) 19
      try have u91_7 : σ91 29 21 = τ 29 21 := by first | exact o91 21 (by decide) | exact congrFun (f91 29 (by decide)) 21
      refine pe_rv d_M_insertClip_94 ?_
      have hb : pe_rb (pe_eI m (m 3 0) (m 9)) σ91 := by
        refine pe_rb_I hA hw w4.1 (by omega) (pe_mq_c hQ ⟨((f91 32 (by decide)).trans (rfl)), ((f91 33 (by decide)).trans (rfl)), ((f91 34 (by decide)).trans (rfl)), ((f91 35 (by decide)).trans (rfl)), ((f91 36 (by decide)).trans (rfl))⟩ (by omega)) (fun j h0 h1 => ?_) ((f91 31 (by decide)).trans (hfr 31 (by decide)))
        rw [f91 30 (by decide)]
        obtain ⟨t1, t2, t3⟩ := hT j h0 h1
        exact ⟨t1, fun q q2 => t2 q (by omega), t3⟩
      have hz : m 1 0 + m 3 0 ≤ σ91 29 2 ∧ pe_bg (σ91 30) (m 0 0 + m 3 0) (σ91 29 2) ∧ ∀ j, m 1 0 + m 3 0 ≤ j → j < σ91 29 2 → ¬ pe_bg (σ91 30) (m 0 0 + m 3 0) j := by
        rw [f91 30 (by decide), show m 0 0 + m 3 0 = τ 29 1 by omega, show m 1 0 + m 3 0 = τ 29 2 + τ 29 5 by omega]
        exact ⟨x91.1.1, x91.2⟩
      exact ⟨hB, (fun b hb => (f91 b (by simp at hb ⊢; try omega)).trans (hfr b (by simp at hb ⊢; try omega))), (fun j hj => (o91 j (by simp at hj ⊢; try omega)).trans (hor j (by simp at hj ⊢; try omega))), by
        unfold pe_eIns; rw [if_neg (by omega)]
        exact pe_ra_B hb (show 0 ≤ m 1 0 + m 3 0 by omega) hz⟩
    · skip
      refine pe_aload_n d_M_insertClip_58 rfl ?_
      refine pe_getr f_M_7 d_M_insertClip_59 rfl rfl ?_
      refine pe_aload_n d_M_insertClip_62 rfl ?_
      refine pe_geti f_M_117 d_M_insertClip_63 rfl rfl 2 rfl ?_
      refine pe_iload_n d_M_insertClip_66 rfl ?_
      refine pe_iadd d_M_insertClip_67 ?_
      refine pe_aload_n d_M_insertClip_68 rfl ?_
      refine pe_getr f_M_17 d_M_insertClip_69 rfl rfl ?_
      refine pe_iload_n d_M_insertClip_72 rfl ?_
      refine pe_iald d_M_insertClip_73 rfl (by omega) (by omega) ?_
      refine pe_iastT d_M_insertClip_74 rfl (by omega) (by omega) hB (by first | exact hB _ _ | exact hB0 _ _ | exact hBt _ _ | exact ⟨by omega, by omega⟩) (fun σ74 hB e74 o74 f74 => ?_)
      try have u74_0 : σ74 29 1 = τ 29 1 := by first | exact o74 1 (by decide) | exact congrFun (f74 29 (by decide)) 1
      try have u74_1 : σ74 29 2 = τ 29 2 := by first | exact o74 2 (by decide) | exact congrFun (f74 29 (by decide)) 2
      try have u74_2 : σ74 29 3 = τ 29 3 := by first | exact o74 3 (by decide) | exact congrFun (f74 29 (by decide)) 3
      try have u74_3 : σ74 29 5 = τ 29 5 := by first | exact o74 5 (by decide) | exact congrFun (f74 29 (by decide)) 5
      try have u74_4 : σ74 29 6 = τ 29 6 := by first | exact o74 6 (by decide) | exact congrFun (f74 29 (by decide)) 6
      try have u74_5 : σ74 29 7 = τ 29 7 := by first | exact o74 7 (by decide) | exact congrFun (f74 29 (by decide)) 7
      try have u74_6 : σ74 29 19 = τ 29 19 := by first | exact o74 19 (by decide) | exact congrFun (f74 29 (by decide)) 19
      try have u74_7 : σ74 29 21 = τ 29 21 := by first | exact o74 21 (by decide) | exact congrFun (f74 29 (by decide)) 21
      refine pe_iinc d_M_insertClip_75 rfl ?_
      refine pe_goto (t := 50) d_M_insertClip_78 ?_
      exact ih (_, _) ⟨hB, (fun b hb => (f74 b (by simp at hb ⊢; try omega)).trans (hfr b (by simp at hb ⊢; try omega))), (fun j hj => (congrFun (f74 29 (by decide)) j).trans (hor j (by simp at hj ⊢; try omega))), by (try dsimp only); omega, pe_mq_c hQ ⟨((f74 32 (by decide)).trans (rfl)), ((f74 33 (by decide)).trans (rfl)), ((f74 34 (by decide)).trans (rfl)), ((f74 35 (by decide)).trans (rfl)), ((f74 36 (by decide)).trans (rfl))⟩ (by (try dsimp only); omega), fun j h0 h1 => by
          (try dsimp only)
          obtain ⟨t1, t2, t3⟩ := hT j h0 h1
          refine ⟨fun q => ?_, fun q q2 => ?_, fun q => ?_⟩
          · rw [o74 j (by omega)]; exact t1 q
          · by_cases e : j = τ 29 2 + k
            · rw [e, e74, v31, A3 k (by omega) (by omega)]; exact congrArg (m 9) (by omega)
            · rw [o74 j e]; exact t2 q (by omega)
          · rw [o74 j (by omega)]; exact t3 q, by (try dsimp only); omega⟩ (by (try dsimp only); omega)
  refine pe_aload_n d_M_insertClip_0 rfl ?_
  refine pe_geti f_M_132 d_M_insertClip_1 rfl rfl 5 rfl ?_
  refine pe_if_eq (t := 22) d_M_insertClip_4 (by first | exact hB _ _ | exact hB0 _ _ | exact hBt _ _ | exact ⟨by omega, by omega⟩) (fun h4 => ?_) (fun h4 => ?_)
  · skip
    refine pe_rv d_M_insertClip_22 ?_
    exact ⟨hB, (fun b hb => rfl), (fun j hj => rfl), by unfold pe_eIns; rw [if_pos (by omega)]; exact pe_ra_Bs hA w2.1 hg⟩
  · skip
    refine pe_aload_n d_M_insertClip_7 rfl ?_
    refine pe_geti f_M_87 d_M_insertClip_8 rfl rfl 1 rfl ?_
    refine pe_aload_n d_M_insertClip_11 rfl ?_
    refine pe_geti f_M_132 d_M_insertClip_12 rfl rfl 5 rfl ?_
    refine pe_iadd d_M_insertClip_15 ?_
    refine pe_sipush d_M_insertClip_16 ?_
    refine pe_icmp_le (t := 23) d_M_insertClip_19 (by first | exact hB _ _ | exact hB0 _ _ | exact hBt _ _ | exact ⟨by omega, by omega⟩) (by first | exact hB _ _ | exact hB0 _ _ | exact hBt _ _ | exact ⟨by omega, by omega⟩) (fun h19 => ?_) (fun h19 => ?_)
    · skip
      refine pe_aload_n d_M_insertClip_23 rfl ?_
      refine pe_aload_n d_M_insertClip_24 rfl ?_
      refine pe_geti f_M_117 d_M_insertClip_25 rfl rfl 2 rfl ?_
      refine pe_aload_n d_M_insertClip_28 rfl ?_
      refine pe_geti f_M_132 d_M_insertClip_29 rfl rfl 5 rfl ?_
      refine pe_iconst d_M_insertClip_32 ?_
      refine pe_v3v d_M_insertClip_33 c_M_120 i_M_note s_M_note rfl rfl (x_M_note hB (by omega) (by omega) (by omega) (by omega)) (fun σ33 hz33 => ?_)
      obtain ⟨hB, f33, o33, x33⟩ := hz33
      try have u33_0 : σ33 29 1 = σ 29 1 := by first | exact o33 1 (by decide) | exact congrFun (f33 29 (by decide)) 1
      try have u33_1 : σ33 29 2 = σ 29 2 := by first | exact o33 2 (by decide) | exact congrFun (f33 29 (by decide)) 2
      try have u33_2 : σ33 29 3 = σ 29 3 := by first | exact o33 3 (by decide) | exact congrFun (f33 29 (by decide)) 3
      try have u33_3 : σ33 29 5 = σ 29 5 := by first | exact o33 5 (by decide) | exact congrFun (f33 29 (by decide)) 5
      try have u33_4 : σ33 29 6 = σ 29 6 := by first | exact o33 6 (by decide) | exact congrFun (f33 29 (by decide)) 6
      try have u33_5 : σ33 29 7 = σ 29 7 := by first | exact o33 7 (by decide) | exact congrFun (f33 29 (by decide)) 7
      try have u33_6 : σ33 29 19 = σ 29 19 := by first | exact o33 19 (by decide) | exact congrFun (f33 29 (by decide)) 19
      try have u33_7 : σ33 29 21 = σ 29 21 := by first | exact o33 21 (by decide) | exact congrFun (f33 29 (by decide)) 21
      rw [a2, a4] at x33
      have T : σ33 30 = σ 30 := f33 30 (by decide)
      refine pe_aload_n d_M_insertClip_36 rfl ?_
      refine pe_aload_n d_M_insertClip_37 rfl ?_
      refine pe_geti f_M_117 d_M_insertClip_38 rfl rfl 2 rfl ?_
      refine pe_aload_n d_M_insertClip_41 rfl ?_
      refine pe_geti f_M_132 d_M_insertClip_42 rfl rfl 5 rfl ?_
      refine pe_v2v d_M_insertClip_45 c_M_124 i_M_open s_M_open rfl rfl (x_M_open hB (by omega) (by omega) (by omega)) (fun σ45 hz45 => ?_)
      obtain ⟨hB, f45, o45, x45⟩ := hz45
      try have u45_0 : σ45 29 1 = σ33 29 1 := by first | exact o45 1 (by decide) | exact congrFun (f45 29 (by decide)) 1
      try have u45_1 : σ45 29 2 = σ33 29 2 := by first | exact o45 2 (by decide) | exact congrFun (f45 29 (by decide)) 2
      try have u45_2 : σ45 29 3 = σ33 29 3 := by first | exact o45 3 (by decide) | exact congrFun (f45 29 (by decide)) 3
      try have u45_3 : σ45 29 5 = σ33 29 5 := by first | exact o45 5 (by decide) | exact congrFun (f45 29 (by decide)) 5
      try have u45_4 : σ45 29 6 = σ33 29 6 := by first | exact o45 6 (by decide) | exact congrFun (f45 29 (by decide)) 6
      try have u45_5 : σ45 29 7 = σ33 29 7 := by first | exact o45 7 (by decide) | exact congrFun (f45 29 (by decide)) 7
      try have u45_6 : σ45 29 19 = σ33 29 19 := by first | exact o45 19 (by decide) | exact congrFun (f45 29 (by decide)) 19
      try have u45_7 : σ45 29 21 = σ33 29 21 := by first | exact o45 21 (by decide) | exact congrFun (f45 29 (by decide)) 21
      refine pe_iconst d_M_insertClip_48 ?_
      refine pe_istore_n d_M_insertClip_49 ?_
      exact J50 (_, _) ⟨hB, (fun b hb => (f45 b (by simp at hb ⊢; try omega)).trans ((f33 b (by simp at hb ⊢; try omega)).trans (rfl))), (fun j hj => (o45 j (by simp at hj ⊢; try omega)).trans ((o33 j (by simp at hj ⊢; try omega)).trans (rfl))), by (try dsimp only); omega, pe_mq_of x33 a7 a2 ⟨((f45 32 (by decide)).trans (rfl)), ((f45 33 (by decide)).trans (rfl)), ((f45 34 (by decide)).trans (rfl)), ((f45 35 (by decide)).trans (rfl)), ((f45 36 (by decide)).trans (rfl))⟩ (by (try dsimp only); omega), fun j h0 h1 => ⟨fun q => by (try dsimp only); rw [x45.2.1 j (by omega), T], fun q q2 => absurd q2 (by (try dsimp only); omega), fun q => by (try dsimp only); rw [x45.2.2 j (by omega) (by omega), T]; exact congrArg (σ 30) (by omega)⟩, by (try dsimp only); omega⟩
    · skip
      refine pe_rv d_M_insertClip_22 ?_
      exact ⟨hB, (fun b hb => rfl), (fun j hj => rfl), by unfold pe_eIns; rw [if_pos (by omega)]; exact pe_ra_Bs hA w2.1 hg⟩
theorem x_M_takeAway {m σ : pe_H} {f t : Int} (hB : pe_B σ) (hA : pe_ra m σ) (hw : pe_wf m) (hk : m 5 0 ≤ 11) (hg : pe_bg (m 8) (m 0 0) (m 1 0)) (hf : 0 ≤ f ∧ f ≤ t ∧ t ≤ m 0 0) : pe_M m_M_takeAway [pe_r 29, pe_i f, pe_i t] σ (pe_qv (fun σ' => pe_B σ' ∧ (∀ b, b ∉ [29, 30, 32, 33, 34, 35, 36] → σ' b = σ b) ∧ (∀ j, j ∉ ([1, 2, 3, 7] : List Int) → σ' 29 j = σ 29 j) ∧ pe_ra (pe_eB (pe_eDel m f t)) σ')) := by
  refine pe_in0 (lv := [some (pe_r 29), some (pe_i f), some (pe_i t)]) ?_
  have hB0 := hB
  obtain ⟨⟨⟨a1, a2, a3, a4, a5⟩, a7, a8, a9⟩, A2, A3, A4⟩ := id hA
  obtain ⟨⟨w1, w2, w3, w4, w5, w6, w7, w8⟩, W2, W3⟩ := id hw
  refine pe_iload_n d_M_takeAway_0 rfl ?_
  refine pe_iload_n d_M_takeAway_1 rfl ?_
  refine pe_icmp_ne (t := 6) d_M_takeAway_2 (by first | exact hB _ _ | exact hB0 _ _ | exact hBt _ _ | exact ⟨by omega, by omega⟩) (by first | exact hB _ _ | exact hB0 _ _ | exact hBt _ _ | exact ⟨by omega, by omega⟩) (fun h2 => ?_) (fun h2 => ?_)
  · skip
    refine pe_aload_n d_M_takeAway_6 rfl ?_
    refine pe_iload_n d_M_takeAway_7 rfl ?_
    refine pe_iconst d_M_takeAway_8 ?_
    refine pe_iload_n d_M_takeAway_9 rfl ?_
    refine pe_iload_n d_M_takeAway_10 rfl ?_
    refine pe_isub d_M_takeAway_11 ?_
    refine pe_v3v d_M_takeAway_12 c_M_120 i_M_note s_M_note rfl rfl (x_M_note hB (by omega) (by omega) (by omega) (by omega)) (fun σ12 hz12 => ?_)
    obtain ⟨hB, f12, o12, x12⟩ := hz12
    try have u12_0 : σ12 29 1 = σ 29 1 := by first | exact o12 1 (by decide) | exact congrFun (f12 29 (by decide)) 1
    try have u12_1 : σ12 29 2 = σ 29 2 := by first | exact o12 2 (by decide) | exact congrFun (f12 29 (by decide)) 2
    try have u12_2 : σ12 29 3 = σ 29 3 := by first | exact o12 3 (by decide) | exact congrFun (f12 29 (by decide)) 3
    try have u12_3 : σ12 29 5 = σ 29 5 := by first | exact o12 5 (by decide) | exact congrFun (f12 29 (by decide)) 5
    try have u12_4 : σ12 29 6 = σ 29 6 := by first | exact o12 6 (by decide) | exact congrFun (f12 29 (by decide)) 6
    try have u12_5 : σ12 29 7 = σ 29 7 := by first | exact o12 7 (by decide) | exact congrFun (f12 29 (by decide)) 7
    try have u12_6 : σ12 29 19 = σ 29 19 := by first | exact o12 19 (by decide) | exact congrFun (f12 29 (by decide)) 19
    try have u12_7 : σ12 29 21 = σ 29 21 := by first | exact o12 21 (by decide) | exact congrFun (f12 29 (by decide)) 21
    have T : σ12 30 = σ 30 := f12 30 (by decide)
    refine pe_aload_n d_M_takeAway_15 rfl ?_
    refine pe_iload_n d_M_takeAway_16 rfl ?_
    refine pe_iload_n d_M_takeAway_17 rfl ?_
    refine pe_iload_n d_M_takeAway_18 rfl ?_
    refine pe_isub d_M_takeAway_19 ?_
    refine pe_v2v d_M_takeAway_20 c_M_135 i_M_close s_M_close rfl rfl (x_M_close hB (by omega) (by omega)) (fun σ20 hz20 => ?_)
    obtain ⟨hB, f20, o20, x20⟩ := hz20
    try have u20_0 : σ20 29 1 = σ12 29 1 := by first | exact o20 1 (by decide) | exact congrFun (f20 29 (by decide)) 1
    try have u20_1 : σ20 29 2 = σ12 29 2 := by first | exact o20 2 (by decide) | exact congrFun (f20 29 (by decide)) 2
    try have u20_2 : σ20 29 3 = σ12 29 3 := by first | exact o20 3 (by decide) | exact congrFun (f20 29 (by decide)) 3
    try have u20_3 : σ20 29 5 = σ12 29 5 := by first | exact o20 5 (by decide) | exact congrFun (f20 29 (by decide)) 5
    try have u20_4 : σ20 29 6 = σ12 29 6 := by first | exact o20 6 (by decide) | exact congrFun (f20 29 (by decide)) 6
    try have u20_5 : σ20 29 7 = σ12 29 7 := by first | exact o20 7 (by decide) | exact congrFun (f20 29 (by decide)) 7
    try have u20_6 : σ20 29 19 = σ12 29 19 := by first | exact o20 19 (by decide) | exact congrFun (f20 29 (by decide)) 19
    try have u20_7 : σ20 29 21 = σ12 29 21 := by first | exact o20 21 (by decide) | exact congrFun (f20 29 (by decide)) 21
    refine pe_aload_n d_M_takeAway_23 rfl ?_
    refine pe_iload_n d_M_takeAway_24 rfl ?_
    refine pe_v1v d_M_takeAway_25 c_M_128 i_M_settle s_M_settle rfl rfl (x_M_settle hB (by omega) (by omega)) (fun σ25 hz25 => ?_)
    obtain ⟨hB, f25, o25, x25⟩ := hz25
    try have u25_0 : σ25 29 1 = σ20 29 1 := by first | exact o25 1 (by decide) | exact congrFun (f25 29 (by decide)) 1
    try have u25_1 : σ25 29 2 = σ20 29 2 := by first | exact o25 2 (by decide) | exact congrFun (f25 29 (by decide)) 2
    try have u25_2 : σ25 29 3 = σ20 29 3 := by first | exact o25 3 (by decide) | exact congrFun (f25 29 (by decide)) 3
    try have u25_3 : σ25 29 5 = σ20 29 5 := by first | exact o25 5 (by decide) | exact congrFun (f25 29 (by decide)) 5
    try have u25_4 : σ25 29 6 = σ20 29 6 := by first | exact o25 6 (by decide) | exact congrFun (f25 29 (by decide)) 6
    try have u25_5 : σ25 29 7 = σ20 29 7 := by first | exact o25 7 (by decide) | exact congrFun (f25 29 (by decide)) 7
    try have u25_6 : σ25 29 19 = σ20 29 19 := by first | exact o25 19 (by decide) | exact congrFun (f25 29 (by decide)) 19
    try have u25_7 : σ25 29 21 = σ20 29 21 := by first | exact o25 21 (by decide) | exact congrFun (f25 29 (by decide)) 21
    refine pe_rv d_M_takeAway_28 ?_
    have hb : pe_rb (pe_eD m f t) σ25 := by
      refine pe_rb_D hA hw (by omega) (by omega) (pe_mq_of x12 a7 a2 ⟨((f25 32 (by decide)).trans ((f20 32 (by decide)).trans (rfl))), ((f25 33 (by decide)).trans ((f20 33 (by decide)).trans (rfl))), ((f25 34 (by decide)).trans ((f20 34 (by decide)).trans (rfl))), ((f25 35 (by decide)).trans ((f20 35 (by decide)).trans (rfl))), ((f25 36 (by decide)).trans ((f20 36 (by decide)).trans (rfl)))⟩ (by omega)) (fun j h0 h1 => ?_) ((f25 31 (by decide)).trans ((f20 31 (by decide)).trans ((f12 31 (by decide)).trans (rfl))))
      rw [f25 30 (by decide)]
      exact ⟨fun q => by rw [x20.2.1 j q, T], fun q => by rw [x20.2.2 j q (by omega), T]⟩
    have hz : f ≤ σ25 29 2 ∧ pe_bg (σ25 30) (m 0 0 - (t - f)) (σ25 29 2) ∧ ∀ j, f ≤ j → j < σ25 29 2 → ¬ pe_bg (σ25 30) (m 0 0 - (t - f)) j := by
      rw [f25 30 (by decide), show m 0 0 - (t - f) = σ20 29 1 by omega]
      exact ⟨x25.1.1, x25.2⟩
    exact ⟨hB, (fun b hb => (f25 b (by simp at hb ⊢; try omega)).trans ((f20 b (by simp at hb ⊢; try omega)).trans ((f12 b (by simp at hb ⊢; try omega)).trans (rfl)))), (fun j hj => (o25 j (by simp at hj ⊢; try omega)).trans ((o20 j (by simp at hj ⊢; try omega)).trans ((o12 j (by simp at hj ⊢; try omega)).trans (rfl)))), by
      unfold pe_eDel; rw [if_neg (by omega)]
      exact pe_ra_B hb hf.1 hz⟩
  · skip
    refine pe_rv d_M_takeAway_5 ?_
    exact ⟨hB, (fun b hb => rfl), (fun j hj => rfl), by unfold pe_eDel; rw [if_pos (by omega)]; exact pe_ra_Bs hA w2.1 hg⟩
theorem x_M_cutOut {m σ : pe_H} (hB : pe_B σ) (hA : pe_ra m σ) (hw : pe_wf m) (hk : m 5 0 ≤ 11) (hg : pe_bg (m 8) (m 0 0) (m 1 0)) : pe_M m_M_cutOut [pe_r 29] σ (pe_qv (fun σ' => pe_B σ' ∧ (∀ b, b ∉ [29, 30, 32, 33, 34, 35, 36, 31] → σ' b = σ b) ∧ (∀ j, j ∉ ([1, 2, 3, 5, 7] : List Int) → σ' 29 j = σ 29 j) ∧ pe_ra (pe_eB (pe_eCut m)) σ')) := by
  refine pe_in0 (lv := [some (pe_r 29), none, none, none]) ?_
  have hB0 := hB
  obtain ⟨⟨⟨a1, a2, a3, a4, a5⟩, a7, a8, a9⟩, A2, A3, A4⟩ := id hA
  obtain ⟨⟨w1, w2, w3, w4, w5, w6, w7, w8⟩, W2, W3⟩ := id hw
  have J74 : ∀ x : Int × Int × Int × pe_H, (pe_B x.2.2.2 ∧ (∀ b, b ∉ [29, 31] → x.2.2.2 b = σ b) ∧ (∀ j, j ∉ ([5] : List Int) → x.2.2.2 29 j = σ 29 j) ∧ (x.2.2.2 29 5 = x.2.1 - x.1 ∧ m 2 0 ≠ -1 ∧ m 2 0 ≠ m 1 0) ∧ ((m 2 0 < m 1 0 ∧ x.1 = m 2 0 ∧ x.2.1 = m 1 0) ∨ (¬ m 2 0 < m 1 0 ∧ x.1 = m 1 0 ∧ x.2.1 = m 2 0)) ∧ (∀ j, 0 ≤ j → j < x.2.2.1 → x.2.2.2 31 j = σ 30 (x.1 + j)) ∧ (0 ≤ x.2.2.1 ∧ x.2.2.1 ≤ x.2.1 - x.1)) → pe_G m_M_cutOut 74 [some (pe_r 29), some (pe_i x.1), some (pe_i x.2.1), some (pe_i x.2.2.1)] [] x.2.2.2 (pe_qv (fun σ' => pe_B σ' ∧ (∀ b, b ∉ [29, 30, 32, 33, 34, 35, 36, 31] → σ' b = σ b) ∧ (∀ j, j ∉ ([1, 2, 3, 5, 7] : List Int) → σ' 29 j = σ 29 j) ∧ pe_ra (pe_eB (pe_eCut m)) σ')) := by
    refine pe_loop (fun x : Int × Int × Int × pe_H => (300 - x.2.2.1).toNat) _ _ ?_
    intro x hI ih
    obtain ⟨f, t, k, τ⟩ := x
    dsimp only at hI ⊢
    obtain ⟨hB, hfr, hX⟩ := hI
    obtain ⟨hor, h5, hft, hT, hX⟩ := hX
    have v1 : τ 29 1 = σ 29 1 := hor 1 (by decide)
    have v2 : τ 29 2 = σ 29 2 := hor 2 (by decide)
    have v3 : τ 29 3 = σ 29 3 := hor 3 (by decide)
    have v6 : τ 29 6 = σ 29 6 := hor 6 (by decide)
    have v7 : τ 29 7 = σ 29 7 := hor 7 (by decide)
    have v19 : τ 29 19 = σ 29 19 := hor 19 (by decide)
    have v21 : τ 29 21 = σ 29 21 := hor 21 (by decide)
    have v30 : τ 30 = σ 30 := hfr 30 (by decide)
    have hBt := hB
    refine pe_iload_n d_M_cutOut_74 rfl ?_
    refine pe_aload_n d_M_cutOut_75 rfl ?_
    refine pe_geti f_M_132 d_M_cutOut_76 rfl rfl 5 rfl ?_
    refine pe_icmp_ge (t := 102) d_M_cutOut_79 (by first | exact hB _ _ | exact hB0 _ _ | exact hBt _ _ | exact ⟨by omega, by omega⟩) (by first | exact hB _ _ | exact hB0 _ _ | exact hBt _ _ | exact ⟨by omega, by omega⟩) (fun h79 => ?_) (fun h79 => ?_)
    · skip
      have hC := pe_ra_C (p := f) (q := t) hA (by omega) hfr h5.1 hor (fun j a b => hT j a (by omega))
      have hC2 := pe_wf_C (p := f) (q := t) hw (by omega)
      refine pe_aload_n d_M_cutOut_102 rfl ?_
      refine pe_iload_n d_M_cutOut_103 rfl ?_
      refine pe_iload_n d_M_cutOut_104 rfl ?_
      refine pe_v2v d_M_cutOut_105 c_M_138 i_M_takeAway s_M_takeAway rfl rfl (x_M_takeAway hB hC hC2 hk hg (show 0 ≤ f ∧ f ≤ t ∧ t ≤ m 0 0 by omega)) (fun σ105 hz105 => ?_)
      obtain ⟨hB, f105, o105, x105⟩ := hz105
      try have u105_0 : σ105 29 1 = τ 29 1 := by first | exact o105 1 (by decide) | exact congrFun (f105 29 (by decide)) 1
      try have u105_1 : σ105 29 2 = τ 29 2 := by first | exact o105 2 (by decide) | exact congrFun (f105 29 (by decide)) 2
      try have u105_2 : σ105 29 3 = τ 29 3 := by first | exact o105 3 (by decide) | exact congrFun (f105 29 (by decide)) 3
      try have u105_3 : σ105 29 5 = τ 29 5 := by first | exact o105 5 (by decide) | exact congrFun (f105 29 (by decide)) 5
      try have u105_4 : σ105 29 6 = τ 29 6 := by first | exact o105 6 (by decide) | exact congrFun (f105 29 (by decide)) 6
      try have u105_5 : σ105 29 7 = τ 29 7 := by first | exact o105 7 (by decide) | exact congrFun (f105 29 (by decide)) 7
      try have u105_6 : σ105 29 19 = τ 29 19 := by first | exact o105 19 (by decide) | exact congrFun (f105 29 (by decide)) 19
      try have u105_7 : σ105 29 21 = τ 29 21 := by first | exact o105 21 (by decide) | exact congrFun (f105 29 (by decide)) 21
      refine pe_rv d_M_cutOut_108 ?_
      exact ⟨hB, (fun b hb => (f105 b (by simp at hb ⊢; try omega)).trans (hfr b (by simp at hb ⊢; try omega))), (fun j hj => (o105 j (by simp at hj ⊢; try omega)).trans (hor j (by simp at hj ⊢; try omega))), by
        unfold pe_eCut; rw [if_neg (by omega)]
        rcases hft with ⟨q, e1, e2⟩ | ⟨q, e1, e2⟩
        · rw [if_pos q]; rw [e1, e2] at x105; exact x105
        · rw [if_neg q]; rw [e1, e2] at x105; exact x105⟩
    · skip
      refine pe_aload_n d_M_cutOut_82 rfl ?_
      refine pe_getr f_M_17 d_M_cutOut_83 rfl rfl ?_
      refine pe_iload_n d_M_cutOut_86 rfl ?_
      refine pe_aload_n d_M_cutOut_87 rfl ?_
      refine pe_getr f_M_7 d_M_cutOut_88 rfl rfl ?_
      refine pe_iload_n d_M_cutOut_91 rfl ?_
      refine pe_iload_n d_M_cutOut_92 rfl ?_
      refine pe_iadd d_M_cutOut_93 ?_
      refine pe_iald d_M_cutOut_94 rfl (by omega) (by omega) ?_
      refine pe_iastT d_M_cutOut_95 rfl (by omega) (by omega) hB (by first | exact hB _ _ | exact hB0 _ _ | exact hBt _ _ | exact ⟨by omega, by omega⟩) (fun σ95 hB e95 o95 f95 => ?_)
      try have u95_0 : σ95 29 1 = τ 29 1 := by first | exact o95 1 (by decide) | exact congrFun (f95 29 (by decide)) 1
      try have u95_1 : σ95 29 2 = τ 29 2 := by first | exact o95 2 (by decide) | exact congrFun (f95 29 (by decide)) 2
      try have u95_2 : σ95 29 3 = τ 29 3 := by first | exact o95 3 (by decide) | exact congrFun (f95 29 (by decide)) 3
      try have u95_3 : σ95 29 5 = τ 29 5 := by first | exact o95 5 (by decide) | exact congrFun (f95 29 (by decide)) 5
      try have u95_4 : σ95 29 6 = τ 29 6 := by first | exact o95 6 (by decide) | exact congrFun (f95 29 (by decide)) 6
      try have u95_5 : σ95 29 7 = τ 29 7 := by first | exact o95 7 (by decide) | exact congrFun (f95 29 (by decide)) 7
      try have u95_6 : σ95 29 19 = τ 29 19 := by first | exact o95 19 (by decide) | exact congrFun (f95 29 (by decide)) 19
      try have u95_7 : σ95 29 21 = τ 29 21 := by first | exact o95 21 (by decide) | exact congrFun (f95 29 (by decide)) 21
      refine pe_iinc d_M_cutOut_96 rfl ?_
      refine pe_goto (t := 74) d_M_cutOut_99 ?_
      exact ih (_, _, _, _) ⟨hB, (fun b hb => (f95 b (by simp at hb ⊢; try omega)).trans (hfr b (by simp at hb ⊢; try omega))), (fun j hj => (congrFun (f95 29 (by decide)) j).trans (hor j (by simp at hj ⊢; try omega))), by (try dsimp only); omega, hft, fun j a b => by
          (try dsimp only at *)
          by_cases e : j = k
          · rw [e, e95, v30]
          · rw [o95 j e]; exact hT j a (by omega), by (try dsimp only); omega⟩ (by (try dsimp only); omega)
  refine pe_aload_n d_M_cutOut_0 rfl ?_
  refine pe_geti f_M_13 d_M_cutOut_1 rfl rfl 3 rfl ?_
  refine pe_if_lt (t := 18) d_M_cutOut_4 (by first | exact hB _ _ | exact hB0 _ _ | exact hBt _ _ | exact ⟨by omega, by omega⟩) (fun h4 => ?_) (fun h4 => ?_)
  · skip
    refine pe_rv d_M_cutOut_18 ?_
    exact ⟨hB, (fun b hb => rfl), (fun j hj => rfl), by unfold pe_eCut; rw [if_pos (by omega)]; exact pe_ra_Bs hA w2.1 hg⟩
  · skip
    refine pe_aload_n d_M_cutOut_7 rfl ?_
    refine pe_geti f_M_13 d_M_cutOut_8 rfl rfl 3 rfl ?_
    refine pe_aload_n d_M_cutOut_11 rfl ?_
    refine pe_geti f_M_117 d_M_cutOut_12 rfl rfl 2 rfl ?_
    refine pe_icmp_ne (t := 19) d_M_cutOut_15 (by first | exact hB _ _ | exact hB0 _ _ | exact hBt _ _ | exact ⟨by omega, by omega⟩) (by first | exact hB _ _ | exact hB0 _ _ | exact hBt _ _ | exact ⟨by omega, by omega⟩) (fun h15 => ?_) (fun h15 => ?_)
    · skip
      refine pe_aload_n d_M_cutOut_19 rfl ?_
      refine pe_geti f_M_13 d_M_cutOut_20 rfl rfl 3 rfl ?_
      refine pe_aload_n d_M_cutOut_23 rfl ?_
      refine pe_geti f_M_117 d_M_cutOut_24 rfl rfl 2 rfl ?_
      refine pe_icmp_ge (t := 37) d_M_cutOut_27 (by first | exact hB _ _ | exact hB0 _ _ | exact hBt _ _ | exact ⟨by omega, by omega⟩) (by first | exact hB _ _ | exact hB0 _ _ | exact hBt _ _ | exact ⟨by omega, by omega⟩) (fun h27 => ?_) (fun h27 => ?_)
      · skip
        refine pe_aload_n d_M_cutOut_37 rfl ?_
        refine pe_geti f_M_117 d_M_cutOut_38 rfl rfl 2 rfl ?_
        refine pe_istore_n d_M_cutOut_41 ?_
        refine pe_aload_n d_M_cutOut_42 rfl ?_
        refine pe_geti f_M_13 d_M_cutOut_43 rfl rfl 3 rfl ?_
        refine pe_aload_n d_M_cutOut_46 rfl ?_
        refine pe_geti f_M_117 d_M_cutOut_47 rfl rfl 2 rfl ?_
        refine pe_icmp_ge (t := 60) d_M_cutOut_50 (by first | exact hB _ _ | exact hB0 _ _ | exact hBt _ _ | exact ⟨by omega, by omega⟩) (by first | exact hB _ _ | exact hB0 _ _ | exact hBt _ _ | exact ⟨by omega, by omega⟩) (fun h50 => ?_) (fun h50 => ?_)
        · skip
          refine pe_aload_n d_M_cutOut_60 rfl ?_
          refine pe_geti f_M_13 d_M_cutOut_61 rfl rfl 3 rfl ?_
          refine pe_istore_n d_M_cutOut_64 ?_
          refine pe_aload_n d_M_cutOut_65 rfl ?_
          refine pe_iload_n d_M_cutOut_66 rfl ?_
          refine pe_iload_n d_M_cutOut_67 rfl ?_
          refine pe_isub d_M_cutOut_68 ?_
          refine pe_putiT f_M_132 g_11_5 d_M_cutOut_69 rfl rfl 5 rfl hB (by first | exact hB _ _ | exact hB0 _ _ | exact hBt _ _ | exact ⟨by omega, by omega⟩) (fun σ69 hB e69 o69 f69 => ?_)
          try have u69_0 : σ69 29 1 = σ 29 1 := by first | exact o69 1 (by decide) | exact congrFun (f69 29 (by decide)) 1
          try have u69_1 : σ69 29 2 = σ 29 2 := by first | exact o69 2 (by decide) | exact congrFun (f69 29 (by decide)) 2
          try have u69_2 : σ69 29 3 = σ 29 3 := by first | exact o69 3 (by decide) | exact congrFun (f69 29 (by decide)) 3
          try have u69_3 : σ69 29 5 = σ 29 5 := by first | exact o69 5 (by decide) | exact congrFun (f69 29 (by decide)) 5
          try have u69_4 : σ69 29 6 = σ 29 6 := by first | exact o69 6 (by decide) | exact congrFun (f69 29 (by decide)) 6
          try have u69_5 : σ69 29 7 = σ 29 7 := by first | exact o69 7 (by decide) | exact congrFun (f69 29 (by decide)) 7
          try have u69_6 : σ69 29 19 = σ 29 19 := by first | exact o69 19 (by decide) | exact congrFun (f69 29 (by decide)) 19
          try have u69_7 : σ69 29 21 = σ 29 21 := by first | exact o69 21 (by decide) | exact congrFun (f69 29 (by decide)) 21
          refine pe_iconst d_M_cutOut_72 ?_
          refine pe_istore_n d_M_cutOut_73 ?_
          exact J74 (_, _, _, _) ⟨hB, (fun b hb => (f69 b (by simp at hb ⊢; try omega)).trans (rfl)), (fun j hj => (o69 j (by simp at hj ⊢; try omega)).trans (rfl)), by (try dsimp only); omega, by (try dsimp only); omega, fun j a b => absurd b (by (try dsimp only); omega), by (try dsimp only); omega⟩
        · skip
          refine pe_aload_n d_M_cutOut_53 rfl ?_
          refine pe_geti f_M_117 d_M_cutOut_54 rfl rfl 2 rfl ?_
          refine pe_goto (t := 64) d_M_cutOut_57 ?_
          refine pe_istore_n d_M_cutOut_64 ?_
          refine pe_aload_n d_M_cutOut_65 rfl ?_
          refine pe_iload_n d_M_cutOut_66 rfl ?_
          refine pe_iload_n d_M_cutOut_67 rfl ?_
          refine pe_isub d_M_cutOut_68 ?_
          refine pe_putiT f_M_132 g_11_5 d_M_cutOut_69 rfl rfl 5 rfl hB (by first | exact hB _ _ | exact hB0 _ _ | exact hBt _ _ | exact ⟨by omega, by omega⟩) (fun σ69 hB e69 o69 f69 => ?_)
          try have u69_0 : σ69 29 1 = σ 29 1 := by first | exact o69 1 (by decide) | exact congrFun (f69 29 (by decide)) 1
          try have u69_1 : σ69 29 2 = σ 29 2 := by first | exact o69 2 (by decide) | exact congrFun (f69 29 (by decide)) 2
          try have u69_2 : σ69 29 3 = σ 29 3 := by first | exact o69 3 (by decide) | exact congrFun (f69 29 (by decide)) 3
          try have u69_3 : σ69 29 5 = σ 29 5 := by first | exact o69 5 (by decide) | exact congrFun (f69 29 (by decide)) 5
          try have u69_4 : σ69 29 6 = σ 29 6 := by first | exact o69 6 (by decide) | exact congrFun (f69 29 (by decide)) 6
          try have u69_5 : σ69 29 7 = σ 29 7 := by first | exact o69 7 (by decide) | exact congrFun (f69 29 (by decide)) 7
          try have u69_6 : σ69 29 19 = σ 29 19 := by first | exact o69 19 (by decide) | exact congrFun (f69 29 (by decide)) 19
          try have u69_7 : σ69 29 21 = σ 29 21 := by first | exact o69 21 (by decide) | exact congrFun (f69 29 (by decide)) 21
          refine pe_iconst d_M_cutOut_72 ?_
          refine pe_istore_n d_M_cutOut_73 ?_
          exact J74 (_, _, _, _) ⟨hB, (fun b hb => (f69 b (by simp at hb ⊢; try omega)).trans (rfl)), (fun j hj => (o69 j (by simp at hj ⊢; try omega)).trans (rfl)), by (try dsimp only); omega, by (try dsimp only); omega, fun j a b => absurd b (by (try dsimp only); omega), by (try dsimp only); omega⟩
      · skip
        refine pe_aload_n d_M_cutOut_30 rfl ?_
        refine pe_geti f_M_13 d_M_cutOut_31 rfl rfl 3 rfl ?_
        refine pe_goto (t := 41) d_M_cutOut_34 ?_
        refine pe_istore_n d_M_cutOut_41 ?_
        refine pe_aload_n d_M_cutOut_42 rfl ?_
        refine pe_geti f_M_13 d_M_cutOut_43 rfl rfl 3 rfl ?_
        refine pe_aload_n d_M_cutOut_46 rfl ?_
        refine pe_geti f_M_117 d_M_cutOut_47 rfl rfl 2 rfl ?_
        refine pe_icmp_ge (t := 60) d_M_cutOut_50 (by first | exact hB _ _ | exact hB0 _ _ | exact hBt _ _ | exact ⟨by omega, by omega⟩) (by first | exact hB _ _ | exact hB0 _ _ | exact hBt _ _ | exact ⟨by omega, by omega⟩) (fun h50 => ?_) (fun h50 => ?_)
        · skip
          refine pe_aload_n d_M_cutOut_60 rfl ?_
          refine pe_geti f_M_13 d_M_cutOut_61 rfl rfl 3 rfl ?_
          refine pe_istore_n d_M_cutOut_64 ?_
          refine pe_aload_n d_M_cutOut_65 rfl ?_
          refine pe_iload_n d_M_cutOut_66 rfl ?_
          refine pe_iload_n d_M_cutOut_67 rfl ?_
          refine pe_isub d_M_cutOut_68 ?_
          refine pe_putiT f_M_132 g_11_5 d_M_cutOut_69 rfl rfl 5 rfl hB (by first | exact hB _ _ | exact hB0 _ _ | exact hBt _ _ | exact ⟨by omega, by omega⟩) (fun σ69 hB e69 o69 f69 => ?_)
          try have u69_0 : σ69 29 1 = σ 29 1 := by first | exact o69 1 (by decide) | exact congrFun (f69 29 (by decide)) 1
          try have u69_1 : σ69 29 2 = σ 29 2 := by first | exact o69 2 (by decide) | exact congrFun (f69 29 (by decide)) 2
          try have u69_2 : σ69 29 3 = σ 29 3 := by first | exact o69 3 (by decide) | exact congrFun (f69 29 (by decide)) 3
          try have u69_3 : σ69 29 5 = σ 29 5 := by first | exact o69 5 (by decide) | exact congrFun (f69 29 (by decide)) 5
          try have u69_4 : σ69 29 6 = σ 29 6 := by first | exact o69 6 (by decide) | exact congrFun (f69 29 (by decide)) 6
          try have u69_5 : σ69 29 7 = σ 29 7 := by first | exact o69 7 (by decide) | exact congrFun (f69 29 (by decide)) 7
          try have u69_6 : σ69 29 19 = σ 29 19 := by first | exact o69 19 (by decide) | exact congrFun (f69 29 (by decide)) 19
          try have u69_7 : σ69 29 21 = σ 29 21 := by first | exact o69 21 (by decide) | exact congrFun (f69 29 (by decide)) 21
          refine pe_iconst d_M_cutOut_72 ?_
          refine pe_istore_n d_M_cutOut_73 ?_
          exact J74 (_, _, _, _) ⟨hB, (fun b hb => (f69 b (by simp at hb ⊢; try omega)).trans (rfl)), (fun j hj => (o69 j (by simp at hj ⊢; try omega)).trans (rfl)), by (try dsimp only); omega, by (try dsimp only); omega, fun j a b => absurd b (by (try dsimp only); omega), by (try dsimp only); omega⟩
        · skip
          refine pe_aload_n d_M_cutOut_53 rfl ?_
          refine pe_geti f_M_117 d_M_cutOut_54 rfl rfl 2 rfl ?_
          refine pe_goto (t := 64) d_M_cutOut_57 ?_
          refine pe_istore_n d_M_cutOut_64 ?_
          refine pe_aload_n d_M_cutOut_65 rfl ?_
          refine pe_iload_n d_M_cutOut_66 rfl ?_
          refine pe_iload_n d_M_cutOut_67 rfl ?_
          refine pe_isub d_M_cutOut_68 ?_
          refine pe_putiT f_M_132 g_11_5 d_M_cutOut_69 rfl rfl 5 rfl hB (by first | exact hB _ _ | exact hB0 _ _ | exact hBt _ _ | exact ⟨by omega, by omega⟩) (fun σ69 hB e69 o69 f69 => ?_)
          try have u69_0 : σ69 29 1 = σ 29 1 := by first | exact o69 1 (by decide) | exact congrFun (f69 29 (by decide)) 1
          try have u69_1 : σ69 29 2 = σ 29 2 := by first | exact o69 2 (by decide) | exact congrFun (f69 29 (by decide)) 2
          try have u69_2 : σ69 29 3 = σ 29 3 := by first | exact o69 3 (by decide) | exact congrFun (f69 29 (by decide)) 3
          try have u69_3 : σ69 29 5 = σ 29 5 := by first | exact o69 5 (by decide) | exact congrFun (f69 29 (by decide)) 5
          try have u69_4 : σ69 29 6 = σ 29 6 := by first | exact o69 6 (by decide) | exact congrFun (f69 29 (by decide)) 6
          try have u69_5 : σ69 29 7 = σ 29 7 := by first | exact o69 7 (by decide) | exact congrFun (f69 29 (by decide)) 7
          try have u69_6 : σ69 29 19 = σ 29 19 := by first | exact o69 19 (by decide) | exact congrFun (f69 29 (by decide)) 19
          try have u69_7 : σ69 29 21 = σ 29 21 := by first | exact o69 21 (by decide) | exact congrFun (f69 29 (by decide)) 21
          refine pe_iconst d_M_cutOut_72 ?_
          refine pe_istore_n d_M_cutOut_73 ?_
          exact J74 (_, _, _, _) ⟨hB, (fun b hb => (f69 b (by simp at hb ⊢; try omega)).trans (rfl)), (fun j hj => (o69 j (by simp at hj ⊢; try omega)).trans (rfl)), by (try dsimp only); omega, by (try dsimp only); omega, fun j a b => absurd b (by (try dsimp only); omega), by (try dsimp only); omega⟩
    · skip
      refine pe_rv d_M_cutOut_18 ?_
      exact ⟨hB, (fun b hb => rfl), (fun j hj => rfl), by unfold pe_eCut; rw [if_pos (by omega)]; exact pe_ra_Bs hA w2.1 hg⟩
theorem x_M_undo {m σ : pe_H} (hB : pe_B σ) (hA : pe_ra m σ) (hw : pe_wf m) (hk : m 5 0 ≤ 11) (hg : pe_bg (m 8) (m 0 0) (m 1 0)) : pe_M m_M_undo [pe_r 29] σ (pe_qv (fun σ' => pe_B σ' ∧ (∀ b, b ∉ [29, 30] → σ' b = σ b) ∧ (∀ j, j ∉ ([1, 2, 3, 7] : List Int) → σ' 29 j = σ 29 j) ∧ pe_ra (pe_eB (pe_eUndo m)) σ')) := by
  refine pe_in0 (lv := [some (pe_r 29), none, none]) ?_
  have hB0 := hB
  obtain ⟨⟨⟨a1, a2, a3, a4, a5⟩, a7, a8, a9⟩, A2, A3, A4⟩ := id hA
  obtain ⟨⟨w1, w2, w3, w4, w5, w6, w7, w8⟩, W2, W3⟩ := id hw
  have J58 : ∀ x : Int × Int × pe_H, (pe_B x.2.2 ∧ (∀ b, b ∉ [29, 30] → x.2.2 b = σ b) ∧ (∀ j, j ∉ ([1, 7] : List Int) → x.2.2 29 j = σ 29 j) ∧ (x.1 = m 10 (m 5 0 - 1) ∧ x.2.2 29 7 = m 5 0 - 1 ∧ x.2.2 29 1 = m 0 0 - m 11 (m 5 0 - 1) + m 12 (m 5 0 - 1) ∧ m 5 0 ≠ 0) ∧ (∀ j, 0 ≤ j → j < m 0 0 - m 11 (m 5 0 - 1) + m 12 (m 5 0 - 1) → (j < m 10 (m 5 0 - 1) → x.2.2 30 j = σ 30 j) ∧ (m 10 (m 5 0 - 1) ≤ j → j < m 10 (m 5 0 - 1) + x.2.1 → x.2.2 30 j = σ 36 ((m 5 0 - 1) * 200 + (j - m 10 (m 5 0 - 1)))) ∧ (m 10 (m 5 0 - 1) + m 12 (m 5 0 - 1) ≤ j → x.2.2 30 j = σ 30 (j - m 12 (m 5 0 - 1) + m 11 (m 5 0 - 1)))) ∧ (0 ≤ x.2.1 ∧ x.2.1 ≤ m 12 (m 5 0 - 1))) → pe_G m_M_undo 58 [some (pe_r 29), some (pe_i x.1), some (pe_i x.2.1)] [] x.2.2 (pe_qv (fun σ' => pe_B σ' ∧ (∀ b, b ∉ [29, 30] → σ' b = σ b) ∧ (∀ j, j ∉ ([1, 2, 3, 7] : List Int) → σ' 29 j = σ 29 j) ∧ pe_ra (pe_eB (pe_eUndo m)) σ')) := by
    refine pe_loop (fun x : Int × Int × pe_H => (300 - x.2.1).toNat) _ _ ?_
    intro x hI ih
    obtain ⟨p, k, τ⟩ := x
    dsimp only at hI ⊢
    obtain ⟨hB, hfr, hX⟩ := hI
    obtain ⟨hor, h1, hT, hX⟩ := hX
    obtain ⟨⟨b1, b2, b3, b4⟩, b5⟩ := A4 (m 5 0 - 1) (by omega) (by omega)
    obtain ⟨y1, y2, y3⟩ := W3 (m 5 0 - 1) (by omega) (by omega)
    have y2 := y2 (by omega)
    have v2 : τ 29 2 = σ 29 2 := hor 2 (by decide)
    have v3 : τ 29 3 = σ 29 3 := hor 3 (by decide)
    have v5 : τ 29 5 = σ 29 5 := hor 5 (by decide)
    have v6 : τ 29 6 = σ 29 6 := hor 6 (by decide)
    have v19 : τ 29 19 = σ 29 19 := hor 19 (by decide)
    have v21 : τ 29 21 = σ 29 21 := hor 21 (by decide)
    have v36 : τ 36 = σ 36 := hfr 36 (by decide)
    have v34 : τ 34 (τ 29 7) = m 12 (m 5 0 - 1) := by rw [h1.2.1, hfr 34 (by decide)]; exact b3
    have v35 : τ 35 (τ 29 7) = m 13 (m 5 0 - 1) := by rw [h1.2.1, hfr 35 (by decide)]; exact b4
    have hBt := hB
    refine pe_iload_n d_M_undo_58 rfl ?_
    refine pe_aload_n d_M_undo_59 rfl ?_
    refine pe_getr f_M_29 d_M_undo_60 rfl rfl ?_
    refine pe_aload_n d_M_undo_63 rfl ?_
    refine pe_geti f_M_111 d_M_undo_64 rfl rfl 7 rfl ?_
    refine pe_iald d_M_undo_67 rfl (by omega) (by omega) ?_
    refine pe_icmp_ge (t := 100) d_M_undo_68 (by first | exact hB _ _ | exact hB0 _ _ | exact hBt _ _ | exact ⟨by omega, by omega⟩) (by first | exact hB _ _ | exact hB0 _ _ | exact hBt _ _ | exact ⟨by omega, by omega⟩) (fun h68 => ?_) (fun h68 => ?_)
    · skip
      refine pe_aload_n d_M_undo_100 rfl ?_
      refine pe_iconst d_M_undo_101 ?_
      refine pe_putiT f_M_13 g_11_3 d_M_undo_102 rfl rfl 3 rfl hB (by first | exact hB _ _ | exact hB0 _ _ | exact hBt _ _ | exact ⟨by omega, by omega⟩) (fun σ102 hB e102 o102 f102 => ?_)
      try have u102_0 : σ102 29 1 = τ 29 1 := by first | exact o102 1 (by decide) | exact congrFun (f102 29 (by decide)) 1
      try have u102_1 : σ102 29 2 = τ 29 2 := by first | exact o102 2 (by decide) | exact congrFun (f102 29 (by decide)) 2
      try have u102_2 : σ102 29 3 = τ 29 3 := by first | exact o102 3 (by decide) | exact congrFun (f102 29 (by decide)) 3
      try have u102_3 : σ102 29 5 = τ 29 5 := by first | exact o102 5 (by decide) | exact congrFun (f102 29 (by decide)) 5
      try have u102_4 : σ102 29 6 = τ 29 6 := by first | exact o102 6 (by decide) | exact congrFun (f102 29 (by decide)) 6
      try have u102_5 : σ102 29 7 = τ 29 7 := by first | exact o102 7 (by decide) | exact congrFun (f102 29 (by decide)) 7
      try have u102_6 : σ102 29 19 = τ 29 19 := by first | exact o102 19 (by decide) | exact congrFun (f102 29 (by decide)) 19
      try have u102_7 : σ102 29 21 = τ 29 21 := by first | exact o102 21 (by decide) | exact congrFun (f102 29 (by decide)) 21
      refine pe_aload_n d_M_undo_105 rfl ?_
      refine pe_aload_n d_M_undo_106 rfl ?_
      refine pe_getr f_M_32 d_M_undo_107 rfl rfl ?_
      refine pe_aload_n d_M_undo_110 rfl ?_
      refine pe_geti f_M_111 d_M_undo_111 rfl rfl 7 rfl ?_
      refine pe_iald d_M_undo_114 rfl (by omega) (by omega) ?_
      have c4 : σ102 35 (σ102 29 7) = m 13 (m 5 0 - 1) := by rw [show σ102 29 7 = τ 29 7 by omega, ((f102 35 (by decide)).trans (rfl))]; exact v35
      refine pe_v1v d_M_undo_115 c_M_128 i_M_settle s_M_settle rfl rfl (x_M_settle hB (by omega) (by omega)) (fun σ115 hz115 => ?_)
      obtain ⟨hB, f115, o115, x115⟩ := hz115
      try have u115_0 : σ115 29 1 = σ102 29 1 := by first | exact o115 1 (by decide) | exact congrFun (f115 29 (by decide)) 1
      try have u115_1 : σ115 29 2 = σ102 29 2 := by first | exact o115 2 (by decide) | exact congrFun (f115 29 (by decide)) 2
      try have u115_2 : σ115 29 3 = σ102 29 3 := by first | exact o115 3 (by decide) | exact congrFun (f115 29 (by decide)) 3
      try have u115_3 : σ115 29 5 = σ102 29 5 := by first | exact o115 5 (by decide) | exact congrFun (f115 29 (by decide)) 5
      try have u115_4 : σ115 29 6 = σ102 29 6 := by first | exact o115 6 (by decide) | exact congrFun (f115 29 (by decide)) 6
      try have u115_5 : σ115 29 7 = σ102 29 7 := by first | exact o115 7 (by decide) | exact congrFun (f115 29 (by decide)) 7
      try have u115_6 : σ115 29 19 = σ102 29 19 := by first | exact o115 19 (by decide) | exact congrFun (f115 29 (by decide)) 19
      try have u115_7 : σ115 29 21 = σ102 29 21 := by first | exact o115 21 (by decide) | exact congrFun (f115 29 (by decide)) 21
      refine pe_rv d_M_undo_118 ?_
      have hb : pe_rb (pe_eU m (m 5 0 - 1)) σ115 := by
        refine pe_rb_U hA hw (by omega) (by omega) (fun j h0 h1 => ?_) ⟨((f115 31 (by decide)).trans ((f102 31 (by decide)).trans (hfr 31 (by decide)))), ((f115 32 (by decide)).trans ((f102 32 (by decide)).trans (hfr 32 (by decide)))), ((f115 33 (by decide)).trans ((f102 33 (by decide)).trans (hfr 33 (by decide)))), ((f115 34 (by decide)).trans ((f102 34 (by decide)).trans (hfr 34 (by decide)))), ((f115 35 (by decide)).trans ((f102 35 (by decide)).trans (hfr 35 (by decide)))), ((f115 36 (by decide)).trans ((f102 36 (by decide)).trans (hfr 36 (by decide))))⟩
        rw [show σ115 30 = τ 30 from ((f115 30 (by decide)).trans ((f102 30 (by decide)).trans (rfl)))]
        obtain ⟨t1, t2, t3⟩ := hT j h0 h1
        exact ⟨t1, fun q q2 => t2 q (by omega), t3⟩
      have hz : m 13 (m 5 0 - 1) ≤ σ115 29 2 ∧ pe_bg (σ115 30) (m 0 0 - m 11 (m 5 0 - 1) + m 12 (m 5 0 - 1)) (σ115 29 2) ∧ ∀ j, m 13 (m 5 0 - 1) ≤ j → j < σ115 29 2 → ¬ pe_bg (σ115 30) (m 0 0 - m 11 (m 5 0 - 1) + m 12 (m 5 0 - 1)) j := by
        rw [f115 30 (by decide), show m 0 0 - m 11 (m 5 0 - 1) + m 12 (m 5 0 - 1) = σ102 29 1 by omega, ← c4]
        exact ⟨x115.1.1, x115.2⟩
      exact ⟨hB, (fun b hb => (f115 b (by simp at hb ⊢; try omega)).trans ((f102 b (by simp at hb ⊢; try omega)).trans (hfr b (by simp at hb ⊢; try omega)))), (fun j hj => (o115 j (by simp at hj ⊢; try omega)).trans ((o102 j (by simp at hj ⊢; try omega)).trans (hor j (by simp at hj ⊢; try omega)))), by
        unfold pe_eUndo; rw [if_neg (by omega)]
        exact pe_ra_B hb (show 0 ≤ m 13 (m 5 0 - 1) by omega) hz⟩
    · skip
      refine pe_aload_n d_M_undo_71 rfl ?_
      refine pe_getr f_M_7 d_M_undo_72 rfl rfl ?_
      refine pe_iload_n d_M_undo_75 rfl ?_
      refine pe_iload_n d_M_undo_76 rfl ?_
      refine pe_iadd d_M_undo_77 ?_
      refine pe_aload_n d_M_undo_78 rfl ?_
      refine pe_getr f_M_35 d_M_undo_79 rfl rfl ?_
      refine pe_sipush d_M_undo_82 ?_
      refine pe_aload_n d_M_undo_85 rfl ?_
      refine pe_geti f_M_111 d_M_undo_86 rfl rfl 7 rfl ?_
      refine pe_imul d_M_undo_89 ?_
      refine pe_iload_n d_M_undo_90 rfl ?_
      refine pe_iadd d_M_undo_91 ?_
      refine pe_iald d_M_undo_92 rfl (by omega) (by omega) ?_
      refine pe_iastT d_M_undo_93 rfl (by omega) (by omega) hB (by first | exact hB _ _ | exact hB0 _ _ | exact hBt _ _ | exact ⟨by omega, by omega⟩) (fun σ93 hB e93 o93 f93 => ?_)
      try have u93_0 : σ93 29 1 = τ 29 1 := by first | exact o93 1 (by decide) | exact congrFun (f93 29 (by decide)) 1
      try have u93_1 : σ93 29 2 = τ 29 2 := by first | exact o93 2 (by decide) | exact congrFun (f93 29 (by decide)) 2
      try have u93_2 : σ93 29 3 = τ 29 3 := by first | exact o93 3 (by decide) | exact congrFun (f93 29 (by decide)) 3
      try have u93_3 : σ93 29 5 = τ 29 5 := by first | exact o93 5 (by decide) | exact congrFun (f93 29 (by decide)) 5
      try have u93_4 : σ93 29 6 = τ 29 6 := by first | exact o93 6 (by decide) | exact congrFun (f93 29 (by decide)) 6
      try have u93_5 : σ93 29 7 = τ 29 7 := by first | exact o93 7 (by decide) | exact congrFun (f93 29 (by decide)) 7
      try have u93_6 : σ93 29 19 = τ 29 19 := by first | exact o93 19 (by decide) | exact congrFun (f93 29 (by decide)) 19
      try have u93_7 : σ93 29 21 = τ 29 21 := by first | exact o93 21 (by decide) | exact congrFun (f93 29 (by decide)) 21
      refine pe_iinc d_M_undo_94 rfl ?_
      refine pe_goto (t := 58) d_M_undo_97 ?_
      exact ih (_, _, _) ⟨hB, (fun b hb => (f93 b (by simp at hb ⊢; try omega)).trans (hfr b (by simp at hb ⊢; try omega))), (fun j hj => (congrFun (f93 29 (by decide)) j).trans (hor j (by simp at hj ⊢; try omega))), by (try dsimp only); omega, fun j h0 h1 => by
          (try dsimp only at *)
          obtain ⟨t1, t2, t3⟩ := hT j h0 h1
          refine ⟨fun q => ?_, fun q q2 => ?_, fun q => ?_⟩
          · rw [o93 j (by omega)]; exact t1 q
          · by_cases e : j = p + k
            · rw [e, e93, v36]; exact congrArg (σ 36) (by omega)
            · rw [o93 j e]; exact t2 q (by omega)
          · rw [o93 j (by omega)]; exact t3 q, by (try dsimp only); omega⟩ (by (try dsimp only); omega)
  refine pe_aload_n d_M_undo_0 rfl ?_
  refine pe_geti f_M_111 d_M_undo_1 rfl rfl 7 rfl ?_
  refine pe_if_ne (t := 8) d_M_undo_4 (by first | exact hB _ _ | exact hB0 _ _ | exact hBt _ _ | exact ⟨by omega, by omega⟩) (fun h4 => ?_) (fun h4 => ?_)
  · skip
    obtain ⟨⟨b1, b2, b3, b4⟩, b5⟩ := A4 (m 5 0 - 1) (by omega) (by omega)
    obtain ⟨y1, y2, y3⟩ := W3 (m 5 0 - 1) (by omega) (by omega)
    have y2 := y2 (by omega)
    refine pe_aload_n d_M_undo_8 rfl ?_
    refine pe_dup d_M_undo_9 ?_
    refine pe_geti f_M_111 d_M_undo_10 rfl rfl 7 rfl ?_
    refine pe_iconst d_M_undo_13 ?_
    refine pe_isub d_M_undo_14 ?_
    refine pe_putiT f_M_111 g_11_7 d_M_undo_15 rfl rfl 7 rfl hB (by first | exact hB _ _ | exact hB0 _ _ | exact hBt _ _ | exact ⟨by omega, by omega⟩) (fun σ15 hB e15 o15 f15 => ?_)
    try have u15_0 : σ15 29 1 = σ 29 1 := by first | exact o15 1 (by decide) | exact congrFun (f15 29 (by decide)) 1
    try have u15_1 : σ15 29 2 = σ 29 2 := by first | exact o15 2 (by decide) | exact congrFun (f15 29 (by decide)) 2
    try have u15_2 : σ15 29 3 = σ 29 3 := by first | exact o15 3 (by decide) | exact congrFun (f15 29 (by decide)) 3
    try have u15_3 : σ15 29 5 = σ 29 5 := by first | exact o15 5 (by decide) | exact congrFun (f15 29 (by decide)) 5
    try have u15_4 : σ15 29 6 = σ 29 6 := by first | exact o15 6 (by decide) | exact congrFun (f15 29 (by decide)) 6
    try have u15_5 : σ15 29 7 = σ 29 7 := by first | exact o15 7 (by decide) | exact congrFun (f15 29 (by decide)) 7
    try have u15_6 : σ15 29 19 = σ 29 19 := by first | exact o15 19 (by decide) | exact congrFun (f15 29 (by decide)) 19
    try have u15_7 : σ15 29 21 = σ 29 21 := by first | exact o15 21 (by decide) | exact congrFun (f15 29 (by decide)) 21
    have c7 : σ15 29 7 = (m 5 0 - 1) := by omega
    have c1 : σ15 32 (σ15 29 7) = m 10 (m 5 0 - 1) := by rw [c7, f15 32 (by decide)]; exact b1
    have c2 : σ15 33 (σ15 29 7) = m 11 (m 5 0 - 1) := by rw [c7, f15 33 (by decide)]; exact b2
    refine pe_aload_n d_M_undo_18 rfl ?_
    refine pe_getr f_M_23 d_M_undo_19 rfl rfl ?_
    refine pe_aload_n d_M_undo_22 rfl ?_
    refine pe_geti f_M_111 d_M_undo_23 rfl rfl 7 rfl ?_
    refine pe_iald d_M_undo_26 rfl (by omega) (by omega) ?_
    refine pe_istore_n d_M_undo_27 ?_
    refine pe_aload_n d_M_undo_28 rfl ?_
    refine pe_iload_n d_M_undo_29 rfl ?_
    refine pe_aload_n d_M_undo_30 rfl ?_
    refine pe_getr f_M_26 d_M_undo_31 rfl rfl ?_
    refine pe_aload_n d_M_undo_34 rfl ?_
    refine pe_geti f_M_111 d_M_undo_35 rfl rfl 7 rfl ?_
    refine pe_iald d_M_undo_38 rfl (by omega) (by omega) ?_
    refine pe_v2v d_M_undo_39 c_M_135 i_M_close s_M_close rfl rfl (x_M_close hB (by omega) (by omega)) (fun σ39 hz39 => ?_)
    obtain ⟨hB, f39, o39, x39⟩ := hz39
    try have u39_0 : σ39 29 1 = σ15 29 1 := by first | exact o39 1 (by decide) | exact congrFun (f39 29 (by decide)) 1
    try have u39_1 : σ39 29 2 = σ15 29 2 := by first | exact o39 2 (by decide) | exact congrFun (f39 29 (by decide)) 2
    try have u39_2 : σ39 29 3 = σ15 29 3 := by first | exact o39 3 (by decide) | exact congrFun (f39 29 (by decide)) 3
    try have u39_3 : σ39 29 5 = σ15 29 5 := by first | exact o39 5 (by decide) | exact congrFun (f39 29 (by decide)) 5
    try have u39_4 : σ39 29 6 = σ15 29 6 := by first | exact o39 6 (by decide) | exact congrFun (f39 29 (by decide)) 6
    try have u39_5 : σ39 29 7 = σ15 29 7 := by first | exact o39 7 (by decide) | exact congrFun (f39 29 (by decide)) 7
    try have u39_6 : σ39 29 19 = σ15 29 19 := by first | exact o39 19 (by decide) | exact congrFun (f39 29 (by decide)) 19
    try have u39_7 : σ39 29 21 = σ15 29 21 := by first | exact o39 21 (by decide) | exact congrFun (f39 29 (by decide)) 21
    have c3 : σ39 34 (σ39 29 7) = m 12 (m 5 0 - 1) := by rw [show σ39 29 7 = m 5 0 - 1 by omega, f39 34 (by decide), f15 34 (by decide)]; exact b3
    refine pe_aload_n d_M_undo_42 rfl ?_
    refine pe_iload_n d_M_undo_43 rfl ?_
    refine pe_aload_n d_M_undo_44 rfl ?_
    refine pe_getr f_M_29 d_M_undo_45 rfl rfl ?_
    refine pe_aload_n d_M_undo_48 rfl ?_
    refine pe_geti f_M_111 d_M_undo_49 rfl rfl 7 rfl ?_
    refine pe_iald d_M_undo_52 rfl (by omega) (by omega) ?_
    refine pe_v2v d_M_undo_53 c_M_124 i_M_open s_M_open rfl rfl (x_M_open hB (by omega) (by omega) (by omega)) (fun σ53 hz53 => ?_)
    obtain ⟨hB, f53, o53, x53⟩ := hz53
    try have u53_0 : σ53 29 1 = σ39 29 1 := by first | exact o53 1 (by decide) | exact congrFun (f53 29 (by decide)) 1
    try have u53_1 : σ53 29 2 = σ39 29 2 := by first | exact o53 2 (by decide) | exact congrFun (f53 29 (by decide)) 2
    try have u53_2 : σ53 29 3 = σ39 29 3 := by first | exact o53 3 (by decide) | exact congrFun (f53 29 (by decide)) 3
    try have u53_3 : σ53 29 5 = σ39 29 5 := by first | exact o53 5 (by decide) | exact congrFun (f53 29 (by decide)) 5
    try have u53_4 : σ53 29 6 = σ39 29 6 := by first | exact o53 6 (by decide) | exact congrFun (f53 29 (by decide)) 6
    try have u53_5 : σ53 29 7 = σ39 29 7 := by first | exact o53 7 (by decide) | exact congrFun (f53 29 (by decide)) 7
    try have u53_6 : σ53 29 19 = σ39 29 19 := by first | exact o53 19 (by decide) | exact congrFun (f53 29 (by decide)) 19
    try have u53_7 : σ53 29 21 = σ39 29 21 := by first | exact o53 21 (by decide) | exact congrFun (f53 29 (by decide)) 21
    refine pe_iconst d_M_undo_56 ?_
    refine pe_istore_n d_M_undo_57 ?_
    exact J58 (_, _, _) ⟨hB, (fun b hb => (f53 b (by simp at hb ⊢; try omega)).trans ((f39 b (by simp at hb ⊢; try omega)).trans ((f15 b (by simp at hb ⊢; try omega)).trans (rfl)))), (fun j hj => (o53 j (by simp at hj ⊢; try omega)).trans ((o39 j (by simp at hj ⊢; try omega)).trans ((o15 j (by simp at hj ⊢; try omega)).trans (rfl)))), ⟨c1, by (try dsimp only); omega, by (try dsimp only); omega, by omega⟩, fun j h0 h1 => by
        (try dsimp only)
        refine ⟨fun q => ?_, fun q q2 => absurd q2 (by omega), fun q => ?_⟩
        · rw [x53.2.1 j (by omega), x39.2.1 j (by omega), f15 30 (by decide)]
        · rw [x53.2.2 j (by omega) (by omega), x39.2.2 _ (by omega) (by omega), f15 30 (by decide)]; exact congrArg (σ 30) (by omega), by (try dsimp only); omega⟩
  · skip
    refine pe_rv d_M_undo_7 ?_
    exact ⟨hB, (fun b hb => rfl), (fun j hj => rfl), by unfold pe_eUndo; rw [if_pos (by omega)]; exact pe_ra_Bs hA w2.1 hg⟩
