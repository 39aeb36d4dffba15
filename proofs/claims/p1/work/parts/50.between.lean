/-! the two between calls: each leaves the other as it is -/
theorem pe_MI_type {σ σ' : pe_H} (h : pe_MI σ) (fr : ∀ b, b ∉ [29, 30, 31, 32, 33, 34, 35, 36, 37, 38, 39] → σ' b = σ b) (o : ∀ j, j ∉ ([1, 2, 3, 5, 6, 7, 13, 14, 15, 16, 17, 18, 19, 20, 26, 41] : List Int) → σ' 29 j = σ 29 j) (x : pe_MEs σ' ∧ pe_KI (σ' 29)) : pe_MI σ' := by
  obtain ⟨hM0, hK0, hW, hp, hS, A44, hs, htop, hN⟩ := h
  have n := x.1
  obtain ⟨_, _, _, _, _, _, _, _, _, N30, _, _⟩ := n
  have o21 := o 21 (by decide); have o22 := o 22 (by decide); have o36 := o 36 (by decide); have o37 := o 37 (by decide); have o40 := o 40 (by decide); have o43 := o 43 (by decide); have o27 := o 27 (by decide)
  exact ⟨x.1, x.2, by omega, by omega, pe_SW_to hS o21 o22 (fr 42 (by decide)), by rw [fr 44 (by decide)]; exact A44, by omega, by omega, N30⟩
theorem pe_MI_size {σ σ' : pe_H} {z C R : Int} (h : pe_MI σ) (fr : ∀ b, b ∉ [29, 42, 43, 44, 45] → σ' b = σ b) (o : ∀ j, j ∉ ([21, 22, 36, 37, 38, 40, 41] : List Int) → σ' 29 j = σ 29 j) (hz : z = 0 ∨ z = 1) (hi : z = 1 ↔ 1 ≤ C ∧ C ≤ 24 ∧ 1 ≤ R ∧ R ≤ 8) (h0 : z = 0 → σ' = σ) (h1 : z = 1 → σ' 29 21 = C ∧ σ' 29 22 = R ∧ σ' 29 36 = 0 ∧ σ' 29 37 = 0 ∧ σ' 29 40 = -1) (hS' : pe_SW (σ' 29) (σ' 42)) (hA' : ∀ j, 0 ≤ σ' 44 j) : pe_MI σ' := by
  rcases hz with hz | hz
  · rw [h0 hz]; exact h
  · obtain ⟨hM0, ⟨k1, k2, k3, k4, k5, k6, k7⟩, hW, hp, hS, A44, hs, htop, hN⟩ := h
    have q1 := h1 hz
    have q2 := hi.mp hz
    have o1 := o 1 (by decide); have o2 := o 2 (by decide); have o3 := o 3 (by decide); have o5 := o 5 (by decide); have o7 := o 7 (by decide)
    have o14 := o 14 (by decide); have o15 := o 15 (by decide); have o16 := o 16 (by decide); have o17 := o 17 (by decide); have o18 := o 18 (by decide); have o43 := o 43 (by decide); have o27 := o 27 (by decide)
    exact ⟨pe_ME_to hM0 o1 o2 o3 o5 o7 (fr 30 (by decide)) (fr 31 (by decide)) (fr 36 (by decide)) (fr 32 (by decide)) (fr 33 (by decide)) (fr 34 (by decide)) (fr 35 (by decide)), ⟨by omega, by omega, by omega, by omega, by omega, by omega, by omega⟩, by omega, by omega, hS', hA', by omega, by omega, by rw [o1, fr 30 (by decide)]; exact hN⟩
theorem pe_MI_congr {σ σ' : pe_H} (e : ∀ b, 29 ≤ b → σ' b = σ b) (h : pe_MI σ) : pe_MI σ' := by
  unfold pe_MI pe_MEs at h ⊢
  rw [e 29 (by decide), e 30 (by decide), e 31 (by decide), e 32 (by decide), e 33 (by decide), e 34 (by decide), e 35 (by decide), e 36 (by decide), e 42 (by decide), e 44 (by decide)]
  exact h
theorem pe_CI_congr {σ σ' : pe_H} (e : ∀ b, b < 29 → σ' b = σ b) (h : pe_CI σ) : pe_CI σ' := by
  unfold pe_CI pe_EI at h ⊢
  rw [e 5 (by decide), e 6 (by decide), e 7 (by decide), e 8 (by decide), e 9 (by decide), e 3 (by decide), e 12 (by decide), e 13 (by decide), e 14 (by decide), e 2 (by decide), e 18 (by decide), e 25 (by decide), e 24 (by decide), e 23 (by decide), e 17 (by decide), e 21 (by decide)]
  exact h
theorem pe_frC {σ σ' : pe_H} (fr : ∀ b, b ∉ [0, 1, 2, 3, 4, 5, 6, 7, 8, 9, 10, 11, 12, 13, 14, 15, 16, 17, 18, 19, 20, 21, 22, 23, 24, 25, 26, 27, 28] → σ' b = σ b) : ∀ b, 29 ≤ b → σ' b = σ b := fun b hb => fr b (by simp; omega)
theorem pe_frM {σ σ' : pe_H} {l : List Nat} (fr : ∀ b, b ∉ l → σ' b = σ b) (hl : ∀ b ∈ l, 29 ≤ b := by decide) : ∀ b, b < 29 → σ' b = σ b := fun b hb => fr b (fun z => absurd (hl b z) (by omega))
