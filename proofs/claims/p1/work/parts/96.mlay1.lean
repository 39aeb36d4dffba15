/-! p1: the reference's rows, and its Up and Down -/
def pe_wz (d c k z : Int) : Prop := (d ≠ 9 → z = pe_wo d) ∧ (d = 9 → (z = k - c ∨ z = 4 - c % 4) ∧ z ≤ k - c ∧ z ≤ 4 - c % 4)
theorem pe_wo_12 (d : Int) : pe_wo d = 1 ∨ pe_wo d = 2 := by unfold pe_wo; split <;> omega
theorem pe_wo_9 : pe_wo 9 = 1 := by unfold pe_wo; rw [if_neg (by omega)]
theorem pe_wo_10 : pe_wo 10 = 1 := by unfold pe_wo; rw [if_neg (by omega)]
theorem pe_wz_b {d c k z : Int} (h : pe_wz d c k z) (hc : 0 ≤ c ∧ c ≤ k) : 0 ≤ z ∧ z ≤ 4 := by
  obtain ⟨h1, h2⟩ := h
  have := pe_wo_12 d
  by_cases e : d = 9
  · have := h2 e; omega
  · have := h1 e; omega
theorem pe_at_A {d c k z r : Int} (h : pe_wz d c k z) (hc : 0 ≤ c ∧ c ≤ k) (hb : z = 0 ∨ k < c + z) : pe_at k (r, c) d = (r + 1, 0) := by
  unfold pe_at
  obtain ⟨h1, h2⟩ := h
  have w := pe_wo_12 d
  by_cases e : d = 9
  · have := h2 e
    rw [if_pos (show k < c + pe_wo d by rw [e, pe_wo_9]; omega)]
  · have := h1 e
    rw [if_pos (show k < c + pe_wo d by omega)]
theorem pe_at_B {d c k z r : Int} (h : pe_wz d c k z) (hc : 0 ≤ c ∧ c ≤ k) (hb : z ≠ 0 ∧ c + z ≤ k) : pe_at k (r, c) d = (r, c) := by
  unfold pe_at
  obtain ⟨h1, h2⟩ := h
  have w := pe_wo_12 d
  by_cases e : d = 9
  · have := h2 e
    rw [if_neg (show ¬ k < c + pe_wo d by rw [e, pe_wo_9]; omega)]
  · have := h1 e
    rw [if_neg (show ¬ k < c + pe_wo d by omega)]
theorem pe_nx_A {k z d : Int} {s : Int × Int} (h : pe_wz d (pe_at k s d).2 k z) (hc : 0 ≤ (pe_at k s d).2) : pe_nx k s d = if d = 10 then ((pe_at k s d).1 + 1, 0) else ((pe_at k s d).1, (pe_at k s d).2 + z) := by
  unfold pe_nx
  generalize pe_at k s d = a at *
  obtain ⟨h1, h2⟩ := h
  by_cases e : d = 10
  · rw [if_pos e, if_pos e]
  · rw [if_neg e, if_neg e]
    refine Prod.ext rfl ?_
    show (if d = 9 then (if k ≤ a.2 - a.2 % 4 + 4 then k else a.2 - a.2 % 4 + 4) else a.2 + pe_wo d) = a.2 + z
    by_cases e9 : d = 9
    · have := h2 e9
      rw [if_pos e9]
      split <;> omega
    · rw [if_neg e9, h1 e9]
theorem pe_ly_j {t : Int → Int} {n c p q : Int} (hp : 0 ≤ p) (h : p < q) (hb : ∀ j, p < j → j < q → ¬ pe_bg t n j) : pe_ly t n c q.toNat = pe_ly t n c (p + 1).toNat := by
  have K : ∀ k : Nat, p + 1 + k ≤ q → pe_ly t n c (p + 1 + k).toNat = pe_ly t n c (p + 1).toNat := by
    intro k
    induction k with
    | zero => intro _; simp
    | succ k ih =>
      intro hk
      have e := pe_ly_n (t := t) (n := n) (c := c) (p := p + 1 + k) (by omega) (hb _ (by omega) (by omega))
      rw [show p + 1 + ((k + 1 : Nat) : Int) = p + 1 + k + 1 by omega, e]
      exact ih (by omega)
  have := K (q - (p + 1)).toNat (by omega)
  rwa [show p + 1 + ((q - (p + 1)).toNat : Int) = q by omega] at this
theorem pe_row_M {t : Int → Int} {n c : Int} (hc : 4 ≤ c) : ∀ p : Nat, (∀ j : Int, 0 ≤ j → j < p → pe_bg t n j → (pe_rw t n c j).1 ≤ (pe_ly t n c p).1) ∧ ∀ row : Int, 0 ≤ row → (row < (pe_ly t n c p).1 ∨ (row = (pe_ly t n c p).1 ∧ (pe_ly t n c p).2 ≠ 0)) → ∃ j : Int, 0 ≤ j ∧ j < p ∧ pe_bg t n j ∧ (pe_rw t n c j).1 = row
  | 0 => by
    refine ⟨fun j a b => absurd b (by omega), fun row a b => ?_⟩
    have e : pe_ly t n c 0 = (0, 0) := by unfold pe_ly; rfl
    rw [e] at b
    dsimp only at b
    omega
  | p + 1 => by
    obtain ⟨i1, i2⟩ := pe_row_M (t := t) (n := n) hc p
    by_cases h : pe_bg t n p
    · have e := pe_ly_s (t := t) (n := n) (c := c) (p := (p : Int)) (by omega) h
      rw [show ((p : Int) + 1).toNat = p + 1 by omega, show ((p : Int)).toNat = p by omega] at e
      have R : pe_rw t n c p = pe_at c (pe_ly t n c p) (pe_cd t n p) := by unfold pe_rw; rw [show ((p : Int)).toNat = p by omega]
      have a1 := pe_at_1 c (pe_ly t n c p) (pe_cd t n p)
      have a2 := pe_nx_1 c (pe_ly t n c p) (pe_cd t n p)
      have a3 : (pe_at c (pe_ly t n c p) (pe_cd t n p)).1 = (pe_ly t n c p).1 + 1 → (pe_ly t n c p).2 ≠ 0 := by
        have := pe_wo_12 (pe_cd t n p)
        unfold pe_at
        split
        · intro _; omega
        · intro q; omega
      rw [← e, ← R] at a2
      rw [← R] at a1 a3
      have C : ∀ row : Int, 0 ≤ row → row ≤ (pe_rw t n c p).1 → ∃ j : Int, 0 ≤ j ∧ j < (p + 1 : Nat) ∧ pe_bg t n j ∧ (pe_rw t n c j).1 = row := by
        intro row r0 r1
        by_cases q : row = (pe_rw t n c p).1
        · exact ⟨p, by omega, by omega, h, q.symm⟩
        · obtain ⟨j, j1, j2, j3⟩ := i2 row r0 (by
            by_cases q2 : row < (pe_ly t n c p).1
            · exact Or.inl q2
            · exact Or.inr ⟨by omega, a3 (by omega)⟩)
          exact ⟨j, j1, by omega, j3⟩
      refine ⟨fun j j1 j2 j3 => ?_, fun row r0 r1 => C row r0 ?_⟩
      · by_cases q : j = p
        · rw [q]; omega
        · have := i1 j j1 (by omega) j3; omega
      · rcases r1 with r1 | ⟨r1, r2⟩
        · omega
        · by_cases q : (pe_ly t n c (p + 1)).1 = (pe_rw t n c p).1 + 1
          · exact absurd (a2.2.2 q) r2
          · omega
    · have e := pe_ly_n (t := t) (n := n) (c := c) (p := (p : Int)) (by omega) h
      rw [show ((p : Int) + 1).toNat = p + 1 by omega, show ((p : Int)).toNat = p by omega] at e
      rw [e]
      refine ⟨fun j j1 j2 j3 => ?_, fun row r0 r1 => ?_⟩
      · by_cases q : j = p
        · exact absurd (q ▸ j3) h
        · exact i1 j j1 (by omega) j3
      · obtain ⟨j, j1, j2, j3⟩ := i2 row r0 r1
        exact ⟨j, j1, by omega, j3⟩
theorem pe_fd_0 {t : Int → Int} {n c row g : Int} : ∀ p : Nat, (∀ j : Int, 0 ≤ j → j < p → pe_bg t n j → (pe_rw t n c j).1 ≠ row) → pe_fd t n c row g p = -1
  | 0, _ => rfl
  | p + 1, h => by
    have ih := pe_fd_0 (t := t) (n := n) (c := c) (row := row) (g := g) p (fun j a b => h j a (by omega))
    have := pe_fd_n (t := t) (n := n) (c := c) (row := row) (g := g) (p := (p : Int)) (by omega) (fun q => h p (by omega) (by omega) q.1 q.2.1)
    rw [show ((p : Int) + 1).toNat = p + 1 by omega, show ((p : Int)).toNat = p by omega] at this
    rw [this]; exact ih
theorem pe_fd_1 {t : Int → Int} {n c row g : Int} : ∀ p : Nat, (∃ j : Int, 0 ≤ j ∧ j < p ∧ pe_bg t n j ∧ (pe_rw t n c j).1 = row) → pe_fd t n c row g p ≠ -1
  | 0, h => by obtain ⟨j, a, b, _⟩ := h; omega
  | p + 1, h => by
    intro z
    by_cases w : pe_fd t n c row g p = -1
    · obtain ⟨j, a, b, c1, d⟩ := h
      by_cases q : j = p
      · subst q
        have := pe_fd_y (t := t) (n := n) (c := c) (row := row) (g := g) (p := (p : Int)) (by omega) ⟨c1, d, Or.inl (by rw [show ((p : Int)).toNat = p by omega]; exact w)⟩
        rw [show ((p : Int) + 1).toNat = p + 1 by omega, z] at this
        omega
      · exact pe_fd_1 (t := t) (n := n) (c := c) (row := row) (g := g) p ⟨j, a, by omega, c1, d⟩ w
    · by_cases y : pe_bg t n p ∧ (pe_rw t n c p).1 = row ∧ (pe_fd t n c row g p = -1 ∨ (pe_rw t n c p).2 ≤ g)
      · have := pe_fd_y (t := t) (n := n) (c := c) (row := row) (g := g) (p := (p : Int)) (by omega) (by rw [show ((p : Int)).toNat = p by omega]; exact y)
        rw [show ((p : Int) + 1).toNat = p + 1 by omega, z] at this
        omega
      · have := pe_fd_n (t := t) (n := n) (c := c) (row := row) (g := g) (p := (p : Int)) (by omega) (by rw [show ((p : Int)).toNat = p by omega]; exact y)
        rw [show ((p : Int) + 1).toNat = p + 1 by omega, show ((p : Int)).toNat = p by omega, z] at this
        exact w this.symm
theorem pe_mf_0 {m : pe_H} {b : Int} (hc : 4 ≤ m 7 0) (hn : 0 ≤ m 0 0) (h : (pe_rw (m 8) (m 0 0) (m 7 0) (m 1 0)).1 + b < 0 ∨ (pe_rw (m 8) (m 0 0) (m 7 0) (m 0 0)).1 < (pe_rw (m 8) (m 0 0) (m 7 0) (m 1 0)).1 + b) : pe_mf m b = -1 := by
  refine pe_fd_0 _ (fun j h0 h1 hb q => ?_)
  have r0 := pe_rw_nn (m 8) (m 0 0) (m 7 0) j
  by_cases e : j = m 0 0
  · rw [e] at q r0; omega
  · have a := (pe_row_M (t := m 8) (n := m 0 0) hc (m 0 0).toNat).1 j h0 (by omega) hb
    have b1 := (pe_at_1 (m 7 0) (pe_ly (m 8) (m 0 0) (m 7 0) (m 0 0).toNat) (pe_cd (m 8) (m 0 0) (m 0 0))).1
    change _ ≤ (pe_rw (m 8) (m 0 0) (m 7 0) (m 0 0)).1 at b1
    omega
theorem pe_mf_1 {m : pe_H} {b : Int} (hc : 4 ≤ m 7 0) (hn : 0 ≤ m 0 0) (h : 0 ≤ (pe_rw (m 8) (m 0 0) (m 7 0) (m 1 0)).1 + b ∧ (pe_rw (m 8) (m 0 0) (m 7 0) (m 1 0)).1 + b ≤ (pe_rw (m 8) (m 0 0) (m 7 0) (m 0 0)).1) : pe_mf m b ≠ -1 := by
  refine pe_fd_1 _ ?_
  have hb : pe_bg (m 8) (m 0 0) (m 0 0) := Or.inl (Int.le_refl _)
  by_cases e : (pe_rw (m 8) (m 0 0) (m 7 0) (m 1 0)).1 + b = (pe_rw (m 8) (m 0 0) (m 7 0) (m 0 0)).1
  · exact ⟨m 0 0, hn, by omega, hb, e.symm⟩
  · have R : pe_rw (m 8) (m 0 0) (m 7 0) (m 0 0) = pe_at (m 7 0) (pe_ly (m 8) (m 0 0) (m 7 0) (m 0 0).toNat) (pe_cd (m 8) (m 0 0) (m 0 0)) := rfl
    have a1 := pe_at_1 (m 7 0) (pe_ly (m 8) (m 0 0) (m 7 0) (m 0 0).toNat) (pe_cd (m 8) (m 0 0) (m 0 0))
    have a3 : (pe_at (m 7 0) (pe_ly (m 8) (m 0 0) (m 7 0) (m 0 0).toNat) (pe_cd (m 8) (m 0 0) (m 0 0))).1 = (pe_ly (m 8) (m 0 0) (m 7 0) (m 0 0).toNat).1 + 1 → (pe_ly (m 8) (m 0 0) (m 7 0) (m 0 0).toNat).2 ≠ 0 := by
      have := pe_wo_12 (pe_cd (m 8) (m 0 0) (m 0 0))
      unfold pe_at
      split
      · intro _; omega
      · intro q; omega
    rw [← R] at a1 a3
    obtain ⟨j, j1, j2, j3⟩ := (pe_row_M (t := m 8) (n := m 0 0) hc (m 0 0).toNat).2 _ h.1 (by
      by_cases q2 : (pe_rw (m 8) (m 0 0) (m 7 0) (m 1 0)).1 + b < (pe_ly (m 8) (m 0 0) (m 7 0) (m 0 0).toNat).1
      · exact Or.inl q2
      · exact Or.inr ⟨by omega, a3 (by omega)⟩)
    exact ⟨j, j1, by omega, j3⟩
theorem pe_ra_f {m σ σ' : pe_H} (hA : pe_ra m σ) (f : ∀ b, b ∈ [30, 31, 32, 33, 34, 35, 36] → σ' b = σ b) (o : ∀ j, j ∈ ([1, 2, 3, 5, 6, 7, 19, 21] : List Int) → σ' 29 j = σ 29 j) : pe_ra m σ' := by
  unfold pe_ra at hA ⊢
  rw [f 30 (by decide), f 31 (by decide), f 32 (by decide), f 33 (by decide), f 34 (by decide), f 35 (by decide), f 36 (by decide), o 1 (by decide), o 2 (by decide), o 3 (by decide), o 5 (by decide), o 6 (by decide), o 7 (by decide), o 19 (by decide), o 21 (by decide)]
  exact hA
theorem pe_ra_gc {m σ σ' : pe_H} {g z : Int} (hA : pe_ra m σ) (f : ∀ b, b ∈ [30, 31, 32, 33, 34, 35, 36] → σ' b = σ b) (o : ∀ j, j ∈ ([1, 3, 5, 7, 19, 21] : List Int) → σ' 29 j = σ 29 j) (e6 : σ' 29 6 = g) (e2 : σ' 29 2 = z) : pe_ra (pe_eS (pe_eS m 4 g) 1 z) σ' := by
  obtain ⟨⟨⟨a1, a2, a3, a4, a5⟩, a7, a8, a9⟩, A2, A3, A4⟩ := hA
  refine ⟨⟨⟨?_, e2, ?_, ?_, e6⟩, ?_, ?_, ?_⟩, ?_, ?_, ?_⟩
  · rw [o 1 (by decide)]; exact a1
  · rw [o 3 (by decide)]; exact a3
  · rw [o 5 (by decide)]; exact a4
  · rw [o 7 (by decide)]; exact a7
  · rw [o 19 (by decide)]; exact a8
  · rw [o 21 (by decide)]; exact a9
  · rw [f 30 (by decide)]; exact A2
  · rw [f 31 (by decide)]; exact A3
  · rw [f 32 (by decide), f 33 (by decide), f 34 (by decide), f 35 (by decide), f 36 (by decide)]; exact A4
def pe_LY (m τ : pe_H) : Prop := (∀ j, 0 ≤ j → j ≤ m 0 0 → pe_bg (m 8) (m 0 0) j → τ 37 j = (pe_rw (m 8) (m 0 0) (m 7 0) j).1 ∧ τ 38 j = (pe_rw (m 8) (m 0 0) (m 7 0) j).2) ∧ τ 29 26 = (pe_rw (m 8) (m 0 0) (m 7 0) (m 0 0)).1
theorem x_M_widthOf {m σ : pe_H} {p c : Int} (hB : pe_B σ) (hA : pe_ra m σ) (hl : 0 ≤ m 0 0 ∧ m 0 0 ≤ 200) (hp : 0 ≤ p ∧ p ≤ m 0 0) (hk : 0 ≤ c ∧ c ≤ m 7 0 ∧ m 7 0 ≤ 24) : pe_M m_M_widthOf [pe_r 29, pe_i p, pe_i c] σ (pe_qp σ (fun z => pe_wz (pe_cd (m 8) (m 0 0) p) c (m 7 0) z)) := by
  refine pe_in0 (lv := [some (pe_r 29), some (pe_i p), some (pe_i c)]) ?_
  have hB0 := hB
  obtain ⟨⟨⟨a1, a2, a3, a4, a5⟩, a7, a8, a9⟩, A2, A3, A4⟩ := id hA
  have D1 : p < m 0 0 → pe_cd (m 8) (m 0 0) p = σ 30 p := fun q => by unfold pe_cd; rw [if_pos q]; exact (A2 p hp.1 q).symm
  have D2 : p = m 0 0 → pe_cd (m 8) (m 0 0) p = -1 := fun q => by unfold pe_cd; rw [if_neg (by omega)]
  refine pe_iload_n d_M_widthOf_0 rfl ?_
  refine pe_aload_n d_M_widthOf_1 rfl ?_
  refine pe_geti f_M_87 d_M_widthOf_2 rfl rfl 1 rfl ?_
  refine pe_icmp_eq (t := 19) d_M_widthOf_5 (by first | exact hB _ _ | exact hB0 _ _ | exact hBt _ _ | exact ⟨by omega, by omega⟩) (by first | exact hB _ _ | exact hB0 _ _ | exact hBt _ _ | exact ⟨by omega, by omega⟩) (fun h5 => ?_) (fun h5 => ?_)
  · skip
    refine pe_iconst d_M_widthOf_19 ?_
    refine pe_ri d_M_widthOf_20 ?_
    refine ⟨rfl, ?_⟩
    try dsimp only
    generalize pe_cd (m 8) (m 0 0) p = d at *
    unfold pe_wz pe_wo
    try unfold pe_wi at *
    clear A2 A3 A4 hA
    omega
  · skip
    refine pe_aload_n d_M_widthOf_8 rfl ?_
    refine pe_getr f_M_7 d_M_widthOf_9 rfl rfl ?_
    refine pe_iload_n d_M_widthOf_12 rfl ?_
    refine pe_iald d_M_widthOf_13 rfl (by omega) (by omega) ?_
    refine pe_bipush d_M_widthOf_14 ?_
    refine pe_icmp_ne (t := 21) d_M_widthOf_16 (by first | exact hB _ _ | exact hB0 _ _ | exact hBt _ _ | exact ⟨by omega, by omega⟩) (by first | exact hB _ _ | exact hB0 _ _ | exact hBt _ _ | exact ⟨by omega, by omega⟩) (fun h16 => ?_) (fun h16 => ?_)
    · skip
      refine pe_aload_n d_M_widthOf_21 rfl ?_
      refine pe_getr f_M_7 d_M_widthOf_22 rfl rfl ?_
      refine pe_iload_n d_M_widthOf_25 rfl ?_
      refine pe_iald d_M_widthOf_26 rfl (by omega) (by omega) ?_
      refine pe_bipush d_M_widthOf_27 ?_
      refine pe_icmp_ne (t := 61) d_M_widthOf_29 (by first | exact hB _ _ | exact hB0 _ _ | exact hBt _ _ | exact ⟨by omega, by omega⟩) (by first | exact hB _ _ | exact hB0 _ _ | exact hBt _ _ | exact ⟨by omega, by omega⟩) (fun h29 => ?_) (fun h29 => ?_)
      · skip
        refine pe_aload_n d_M_widthOf_61 rfl ?_
        refine pe_getr f_M_7 d_M_widthOf_62 rfl rfl ?_
        refine pe_iload_n d_M_widthOf_65 rfl ?_
        refine pe_iald d_M_widthOf_66 rfl (by omega) (by omega) ?_
        refine pe_s1p d_M_widthOf_67 c_M_97 z_M_isWide (t_M_isWide (by first | exact hB _ _ | exact hB0 _ _ | exact hBt _ _ | exact ⟨by omega, by omega⟩)) (fun z67 hz67 => ?_)
        refine pe_if_eq (t := 77) d_M_widthOf_70 (by first | exact hB _ _ | exact hB0 _ _ | exact hBt _ _ | exact ⟨by omega, by omega⟩) (fun h70 => ?_) (fun h70 => ?_)
        · skip
          refine pe_iconst d_M_widthOf_77 ?_
          refine pe_ri d_M_widthOf_78 ?_
          refine ⟨rfl, ?_⟩
          try dsimp only
          generalize pe_cd (m 8) (m 0 0) p = d at *
          unfold pe_wz pe_wo
          try unfold pe_wi at *
          clear A2 A3 A4 hA
          omega
        · skip
          refine pe_iconst d_M_widthOf_73 ?_
          refine pe_goto (t := 78) d_M_widthOf_74 ?_
          refine pe_ri d_M_widthOf_78 ?_
          refine ⟨rfl, ?_⟩
          try dsimp only
          generalize pe_cd (m 8) (m 0 0) p = d at *
          unfold pe_wz pe_wo
          try unfold pe_wi at *
          clear A2 A3 A4 hA
          omega
      · skip
        refine pe_aload_n d_M_widthOf_32 rfl ?_
        refine pe_geti f_M_78 d_M_widthOf_33 rfl rfl 21 rfl ?_
        refine pe_iload_n d_M_widthOf_36 rfl ?_
        refine pe_isub d_M_widthOf_37 ?_
        refine pe_iconst d_M_widthOf_38 ?_
        refine pe_iload_n d_M_widthOf_39 rfl ?_
        refine pe_iconst d_M_widthOf_40 ?_
        refine pe_iremN d_M_widthOf_41 (by omega) (by omega) ?_
        refine pe_isub d_M_widthOf_42 ?_
        refine pe_icmp_ge (t := 55) d_M_widthOf_43 (by first | exact hB _ _ | exact hB0 _ _ | exact hBt _ _ | exact ⟨by omega, by omega⟩) (by first | exact hB _ _ | exact hB0 _ _ | exact hBt _ _ | exact ⟨by omega, by omega⟩) (fun h43 => ?_) (fun h43 => ?_)
        · skip
          refine pe_iconst d_M_widthOf_55 ?_
          refine pe_iload_n d_M_widthOf_56 rfl ?_
          refine pe_iconst d_M_widthOf_57 ?_
          refine pe_iremN d_M_widthOf_58 (by omega) (by omega) ?_
          refine pe_isub d_M_widthOf_59 ?_
          refine pe_ri d_M_widthOf_60 ?_
          refine ⟨rfl, ?_⟩
          try dsimp only
          generalize pe_cd (m 8) (m 0 0) p = d at *
          unfold pe_wz pe_wo
          try unfold pe_wi at *
          clear A2 A3 A4 hA
          omega
        · skip
          refine pe_aload_n d_M_widthOf_46 rfl ?_
          refine pe_geti f_M_78 d_M_widthOf_47 rfl rfl 21 rfl ?_
          refine pe_iload_n d_M_widthOf_50 rfl ?_
          refine pe_isub d_M_widthOf_51 ?_
          refine pe_goto (t := 60) d_M_widthOf_52 ?_
          refine pe_ri d_M_widthOf_60 ?_
          refine ⟨rfl, ?_⟩
          try dsimp only
          generalize pe_cd (m 8) (m 0 0) p = d at *
          unfold pe_wz pe_wo
          try unfold pe_wi at *
          clear A2 A3 A4 hA
          omega
    · skip
      refine pe_iconst d_M_widthOf_19 ?_
      refine pe_ri d_M_widthOf_20 ?_
      refine ⟨rfl, ?_⟩
      try dsimp only
      generalize pe_cd (m 8) (m 0 0) p = d at *
      unfold pe_wz pe_wo
      try unfold pe_wi at *
      clear A2 A3 A4 hA
      omega
set_option maxHeartbeats 2000000 in
theorem x_M_layOut {m σ : pe_H} (hB : pe_B σ) (hA : pe_ra m σ) (hw : pe_wf m) (hc : 4 ≤ m 7 0) : pe_M m_M_layOut [pe_r 29] σ (pe_qv (fun σ' => pe_B σ' ∧ (∀ b, b ∉ [29, 37, 38, 39] → σ' b = σ b) ∧ (∀ j, j ∉ ([26] : List Int) → σ' 29 j = σ 29 j) ∧ pe_LY m σ')) := by
  refine pe_in0 (lv := [some (pe_r 29), none, none, none, none, none]) ?_
  have hB0 := hB
  obtain ⟨⟨⟨a1, a2, a3, a4, a5⟩, a7, a8, a9⟩, A2, A3, A4⟩ := id hA
  obtain ⟨⟨w1, w2, w3, w4, w5, w6, w7, w8⟩, W2, W3⟩ := id hw
  have J6 : ∀ x : Int × Int × Int × pe_H, (pe_B x.2.2.2 ∧ (∀ b, b ∉ [29, 37, 38, 39] → x.2.2.2 b = σ b) ∧ (∀ j, j ∉ ([26] : List Int) → x.2.2.2 29 j = σ 29 j) ∧ (x.2.2.1 ≤ m 0 0 → pe_bg (m 8) (m 0 0) x.2.2.1 ∧ x.1 = (pe_ly (m 8) (m 0 0) (m 7 0) x.2.2.1.toNat).1 ∧ x.2.1 = (pe_ly (m 8) (m 0 0) (m 7 0) x.2.2.1.toNat).2) ∧ (∀ j, 0 ≤ j → j < x.2.2.1 → pe_bg (m 8) (m 0 0) j → x.2.2.2 37 j = (pe_rw (m 8) (m 0 0) (m 7 0) j).1 ∧ x.2.2.2 38 j = (pe_rw (m 8) (m 0 0) (m 7 0) j).2) ∧ (0 ≤ x.2.2.1 ∧ x.2.2.1 ≤ m 0 0 + 1) ∧ (x.2.2.1 = m 0 0 + 1 → x.2.2.2 29 26 = (pe_rw (m 8) (m 0 0) (m 7 0) (m 0 0)).1)) → pe_G m_M_layOut 6 [some (pe_r 29), some (pe_i x.1), some (pe_i x.2.1), some (pe_i x.2.2.1), none, none] [] x.2.2.2 (pe_qv (fun σ' => pe_B σ' ∧ (∀ b, b ∉ [29, 37, 38, 39] → σ' b = σ b) ∧ (∀ j, j ∉ ([26] : List Int) → σ' 29 j = σ 29 j) ∧ pe_LY m σ')) := by
    refine pe_loop (fun x : Int × Int × Int × pe_H => (300 - x.2.2.1).toNat) _ _ ?_
    intro x hI ih
    obtain ⟨r, c, p, τ⟩ := x
    dsimp only at hI ⊢
    obtain ⟨hB, hfr, hX⟩ := hI
    obtain ⟨hor, hP, hG, hX, hL⟩ := hX
    have v1 : τ 29 1 = σ 29 1 := hor 1 (by decide)
    have v21 : τ 29 21 = σ 29 21 := hor 21 (by decide)
    have v30 : τ 30 = σ 30 := hfr 30 (by decide)
    have hAt : pe_ra m τ := pe_ra_f hA (fun b hb => hfr b (by simp at hb ⊢; omega)) (fun j hj => hor j (by simp at hj ⊢; omega))
    have hBt := hB
    have J51 : ∀ x : Int × Int × Int, ((p ≤ m 0 0) ∧ (x.1 = (pe_rw (m 8) (m 0 0) (m 7 0) p).1 ∧ x.2.1 = (pe_rw (m 8) (m 0 0) (m 7 0) p).2) ∧ pe_wz (pe_cd (m 8) (m 0 0) p) x.2.1 (m 7 0) x.2.2) → pe_G m_M_layOut 51 [some (pe_r 29), some (pe_i x.1), some (pe_i x.2.1), some (pe_i p), some (pe_i x.2.2), none] [] τ (pe_qv (fun σ' => pe_B σ' ∧ (∀ b, b ∉ [29, 37, 38, 39] → σ' b = σ b) ∧ (∀ j, j ∉ ([26] : List Int) → σ' 29 j = σ 29 j) ∧ pe_LY m σ')) := by
      intro x hI
      obtain ⟨r2, c2, w2⟩ := x
      dsimp only at hI ⊢
      obtain ⟨hpl, ⟨hr2, hc2⟩, hw2⟩ := hI
      obtain ⟨hbp, hr, hcc⟩ := hP hpl
      have hs := pe_rw_b (m 8) (m 0 0) (m 7 0) p hc hX.1
      rw [← hr2, ← hc2] at hs
      have hb2 := pe_wz_b hw2 (by omega)
      have hBt := hB
      have hBt := hB
      refine pe_aload_n d_M_layOut_51 rfl ?_
      refine pe_getr f_M_41 d_M_layOut_52 rfl rfl ?_
      refine pe_iload_n d_M_layOut_55 rfl ?_
      refine pe_iload_n d_M_layOut_56 rfl ?_
      refine pe_iastT d_M_layOut_57 rfl (by omega) (by omega) hB (by first | exact hB _ _ | exact hB0 _ _ | exact hBt _ _ | exact ⟨by omega, by omega⟩) (fun σ57 hB e57 o57 f57 => ?_)
      try have u57_0 : σ57 29 1 = τ 29 1 := by first | exact o57 1 (by decide) | exact congrFun (f57 29 (by decide)) 1
      try have u57_1 : σ57 29 21 = τ 29 21 := by first | exact o57 21 (by decide) | exact congrFun (f57 29 (by decide)) 21
      try have u57_2 : σ57 29 26 = τ 29 26 := by first | exact o57 26 (by decide) | exact congrFun (f57 29 (by decide)) 26
      refine pe_aload_n d_M_layOut_58 rfl ?_
      refine pe_getr f_M_44 d_M_layOut_59 rfl rfl ?_
      refine pe_iload_n d_M_layOut_62 rfl ?_
      refine pe_iload_n d_M_layOut_63 rfl ?_
      refine pe_iastT d_M_layOut_64 rfl (by omega) (by omega) hB (by first | exact hB _ _ | exact hB0 _ _ | exact hBt _ _ | exact ⟨by omega, by omega⟩) (fun σ64 hB e64 o64 f64 => ?_)
      try have u64_0 : σ64 29 1 = σ57 29 1 := by first | exact o64 1 (by decide) | exact congrFun (f64 29 (by decide)) 1
      try have u64_1 : σ64 29 21 = σ57 29 21 := by first | exact o64 21 (by decide) | exact congrFun (f64 29 (by decide)) 21
      try have u64_2 : σ64 29 26 = σ57 29 26 := by first | exact o64 26 (by decide) | exact congrFun (f64 29 (by decide)) 26
      refine pe_aload_n d_M_layOut_65 rfl ?_
      refine pe_getr f_M_47 d_M_layOut_66 rfl rfl ?_
      refine pe_iload_n d_M_layOut_69 rfl ?_
      refine pe_iload d_M_layOut_70 rfl ?_
      refine pe_iastT d_M_layOut_72 rfl (by omega) (by omega) hB (by first | exact hB _ _ | exact hB0 _ _ | exact hBt _ _ | exact ⟨by omega, by omega⟩) (fun σ72 hB e72 o72 f72 => ?_)
      try have u72_0 : σ72 29 1 = σ64 29 1 := by first | exact o72 1 (by decide) | exact congrFun (f72 29 (by decide)) 1
      try have u72_1 : σ72 29 21 = σ64 29 21 := by first | exact o72 21 (by decide) | exact congrFun (f72 29 (by decide)) 21
      try have u72_2 : σ72 29 26 = σ64 29 26 := by first | exact o72 26 (by decide) | exact congrFun (f72 29 (by decide)) 26
      refine pe_aload_n d_M_layOut_73 rfl ?_
      refine pe_iload_n d_M_layOut_74 rfl ?_
      refine pe_putiT f_M_104 g_11_26 d_M_layOut_75 rfl rfl 26 rfl hB (by first | exact hB _ _ | exact hB0 _ _ | exact hBt _ _ | exact ⟨by omega, by omega⟩) (fun σ75 hB e75 o75 f75 => ?_)
      try have u75_0 : σ75 29 1 = σ72 29 1 := by first | exact o75 1 (by decide) | exact congrFun (f75 29 (by decide)) 1
      try have u75_1 : σ75 29 21 = σ72 29 21 := by first | exact o75 21 (by decide) | exact congrFun (f75 29 (by decide)) 21
      try have u75_2 : σ75 29 26 = σ72 29 26 := by first | exact o75 26 (by decide) | exact congrFun (f75 29 (by decide)) 26
      have P37 : σ75 37 = σ57 37 := (f75 37 (by decide)).trans ((f72 37 (by decide)).trans (f64 37 (by decide)))
      have P38 : σ75 38 = σ64 38 := (f75 38 (by decide)).trans (f72 38 (by decide))
      have Q38 : σ57 38 = τ 38 := f57 38 (by decide)
      have C30 : σ75 30 = σ 30 := ((f75 30 (by decide)).trans ((f72 30 (by decide)).trans ((f64 30 (by decide)).trans ((f57 30 (by decide)).trans (hfr 30 (by decide))))))
      have C1 : σ75 29 1 = m 0 0 := by omega
      have G2 : ∀ j, 0 ≤ j → j ≤ p → pe_bg (m 8) (m 0 0) j → σ75 37 j = (pe_rw (m 8) (m 0 0) (m 7 0) j).1 ∧ σ75 38 j = (pe_rw (m 8) (m 0 0) (m 7 0) j).2 := by
        intro j h1 h2 hb
        by_cases e : j = p
        · rw [P37, P38, e, e57, e64]; exact ⟨hr2, hc2⟩
        · rw [P37, P38, o57 j e, o64 j e, Q38]; exact hG j h1 (by omega) hb
      have D : p < m 0 0 → pe_cd (m 8) (m 0 0) p = σ75 30 p := fun q => by unfold pe_cd; rw [if_pos q, C30]; exact (A2 p hX.1 q).symm
      have NX : pe_nx (m 7 0) (pe_ly (m 8) (m 0 0) (m 7 0) p.toNat) (pe_cd (m 8) (m 0 0) p) = if pe_cd (m 8) (m 0 0) p = 10 then (r2 + 1, 0) else (r2, c2 + w2) := by
        have h := pe_nx_A (k := m 7 0) (z := w2) (d := pe_cd (m 8) (m 0 0) p) (s := pe_ly (m 8) (m 0 0) (m 7 0) p.toNat) (by change pe_wz _ (pe_rw (m 8) (m 0 0) (m 7 0) p).2 _ _; rw [← hc2]; exact hw2) (by change 0 ≤ (pe_rw (m 8) (m 0 0) (m 7 0) p).2; omega)
        rw [h]
        change (if pe_cd (m 8) (m 0 0) p = 10 then ((pe_rw (m 8) (m 0 0) (m 7 0) p).1 + 1, 0) else ((pe_rw (m 8) (m 0 0) (m 7 0) p).1, (pe_rw (m 8) (m 0 0) (m 7 0) p).2 + w2)) = _
        rw [← hr2, ← hc2]
      have BGE : ∀ j, 0 ≤ j → (pe_bg (σ75 30) (σ75 29 1) j ↔ pe_bg (m 8) (m 0 0) j) := fun j h => by rw [C30, C1]; exact pe_bg_eq A2 h
      refine pe_iload_n d_M_layOut_78 rfl ?_
      refine pe_aload_n d_M_layOut_79 rfl ?_
      refine pe_geti f_M_87 d_M_layOut_80 rfl rfl 1 rfl ?_
      refine pe_icmp_ge (t := 101) d_M_layOut_83 (by first | exact hB _ _ | exact hB0 _ _ | exact hBt _ _ | exact ⟨by omega, by omega⟩) (by first | exact hB _ _ | exact hB0 _ _ | exact hBt _ _ | exact ⟨by omega, by omega⟩) (fun h83 => ?_) (fun h83 => ?_)
      · skip
        refine pe_iconst d_M_layOut_101 ?_
        refine pe_istore d_M_layOut_102 ?_
        refine pe_iload d_M_layOut_104 rfl ?_
        refine pe_if_eq (t := 113) d_M_layOut_106 (by first | exact hB _ _ | exact hB0 _ _ | exact hBt _ _ | exact ⟨by omega, by omega⟩) (fun h106 => ?_) (fun h106 => ?_)
        · skip
          refine pe_iload_n d_M_layOut_113 rfl ?_
          refine pe_iload d_M_layOut_114 rfl ?_
          refine pe_iadd d_M_layOut_116 ?_
          refine pe_istore_n d_M_layOut_117 ?_
          refine pe_iload d_M_layOut_118 rfl ?_
          refine pe_if_eq (t := 129) d_M_layOut_120 (by first | exact hB _ _ | exact hB0 _ _ | exact hBt _ _ | exact ⟨by omega, by omega⟩) (fun h120 => ?_) (fun h120 => ?_)
          · skip
            refine pe_iload_n d_M_layOut_129 rfl ?_
            refine pe_istore_n d_M_layOut_130 ?_
            refine pe_iload_n d_M_layOut_131 rfl ?_
            refine pe_aload_n d_M_layOut_132 rfl ?_
            refine pe_geti f_M_87 d_M_layOut_133 rfl rfl 1 rfl ?_
            refine pe_icmp_ne (t := 145) d_M_layOut_136 (by first | exact hB _ _ | exact hB0 _ _ | exact hBt _ _ | exact ⟨by omega, by omega⟩) (by first | exact hB _ _ | exact hB0 _ _ | exact hBt _ _ | exact ⟨by omega, by omega⟩) (fun h136 => ?_) (fun h136 => ?_)
            · skip
              refine pe_aload_n d_M_layOut_145 rfl ?_
              refine pe_iload_n d_M_layOut_146 rfl ?_
              refine pe_v1p d_M_layOut_147 c_M_107 i_M_after s_M_after rfl rfl (t_M_after hB (by omega) (by omega)) (fun z147 hz147 => ?_)
              have LZ : pe_ly (m 8) (m 0 0) (m 7 0) z147.toNat = if pe_cd (m 8) (m 0 0) p = 10 then (r2 + 1, 0) else (r2, c2 + w2) := (pe_ly_j hX.1 hz147.1.1 (fun j a b q => hz147.2.2 j a b ((BGE j (by omega)).mpr q))).trans ((pe_ly_s hX.1 hbp).trans NX)
              refine pe_istore_n d_M_layOut_150 ?_
              refine pe_goto (t := 6) d_M_layOut_151 ?_
              (first
              | (exfalso; omega)
              | (refine pe_drop 4 (pe_drop 5 ?_); exact ih (_, _, _, _) ⟨hB, (fun b hb => (f75 b (by simp at hb ⊢; try omega)).trans ((f72 b (by simp at hb ⊢; try omega)).trans ((f64 b (by simp at hb ⊢; try omega)).trans ((f57 b (by simp at hb ⊢; try omega)).trans (hfr b (by simp at hb ⊢; try omega)))))), (fun j hj => (o75 j (by simp at hj ⊢; try omega)).trans ((congrFun (f72 29 (by decide)) j).trans ((congrFun (f64 29 (by decide)) j).trans ((congrFun (f57 29 (by decide)) j).trans (hor j (by simp at hj ⊢; try omega)))))), fun q => absurd q (by (try dsimp only); omega), fun j h1 h2 hb => G2 j h1 (by (try dsimp only at *); omega) hb, by (try dsimp only); omega, fun _ => e75.trans (by rw [hr2, show p = m 0 0 by omega])⟩ (by (try dsimp only); omega))
              | (refine pe_drop 4 (pe_drop 5 ?_); exact ih (_, _, _, _) ⟨hB, (fun b hb => (f75 b (by simp at hb ⊢; try omega)).trans ((f72 b (by simp at hb ⊢; try omega)).trans ((f64 b (by simp at hb ⊢; try omega)).trans ((f57 b (by simp at hb ⊢; try omega)).trans (hfr b (by simp at hb ⊢; try omega)))))), (fun j hj => (o75 j (by simp at hj ⊢; try omega)).trans ((congrFun (f72 29 (by decide)) j).trans ((congrFun (f64 29 (by decide)) j).trans ((congrFun (f57 29 (by decide)) j).trans (hor j (by simp at hj ⊢; try omega)))))), fun q => ⟨(BGE _ (by (try dsimp only); omega)).mp hz147.2.1, by (try dsimp only); rw [LZ]; first | rw [if_pos (by omega)] | rw [if_neg (by omega)], by (try dsimp only); rw [LZ]; first | rw [if_pos (by omega)] | rw [if_neg (by omega)]⟩, fun j h1 h2 hb => G2 j h1 ((Classical.em (j ≤ p)).elim id (fun e => absurd ((BGE j h1).mpr hb) (hz147.2.2 j (by omega) h2))) hb, by (try dsimp only); omega, fun q => absurd q (by (try dsimp only); omega)⟩ (by (try dsimp only); omega)))
            · skip
              refine pe_iload_n d_M_layOut_139 rfl ?_
              refine pe_iconst d_M_layOut_140 ?_
              refine pe_iadd d_M_layOut_141 ?_
              refine pe_goto (t := 150) d_M_layOut_142 ?_
              refine pe_istore_n d_M_layOut_150 ?_
              refine pe_goto (t := 6) d_M_layOut_151 ?_
              (first
              | (exfalso; omega)
              | (refine pe_drop 4 (pe_drop 5 ?_); exact ih (_, _, _, _) ⟨hB, (fun b hb => (f75 b (by simp at hb ⊢; try omega)).trans ((f72 b (by simp at hb ⊢; try omega)).trans ((f64 b (by simp at hb ⊢; try omega)).trans ((f57 b (by simp at hb ⊢; try omega)).trans (hfr b (by simp at hb ⊢; try omega)))))), (fun j hj => (o75 j (by simp at hj ⊢; try omega)).trans ((congrFun (f72 29 (by decide)) j).trans ((congrFun (f64 29 (by decide)) j).trans ((congrFun (f57 29 (by decide)) j).trans (hor j (by simp at hj ⊢; try omega)))))), fun q => absurd q (by (try dsimp only); omega), fun j h1 h2 hb => G2 j h1 (by (try dsimp only at *); omega) hb, by (try dsimp only); omega, fun _ => e75.trans (by rw [hr2, show p = m 0 0 by omega])⟩ (by (try dsimp only); omega))
              | (refine pe_drop 4 (pe_drop 5 ?_); exact ih (_, _, _, _) ⟨hB, (fun b hb => (f75 b (by simp at hb ⊢; try omega)).trans ((f72 b (by simp at hb ⊢; try omega)).trans ((f64 b (by simp at hb ⊢; try omega)).trans ((f57 b (by simp at hb ⊢; try omega)).trans (hfr b (by simp at hb ⊢; try omega)))))), (fun j hj => (o75 j (by simp at hj ⊢; try omega)).trans ((congrFun (f72 29 (by decide)) j).trans ((congrFun (f64 29 (by decide)) j).trans ((congrFun (f57 29 (by decide)) j).trans (hor j (by simp at hj ⊢; try omega)))))), fun q => ⟨(BGE _ (by (try dsimp only); omega)).mp hz147.2.1, by (try dsimp only); rw [LZ]; first | rw [if_pos (by omega)] | rw [if_neg (by omega)], by (try dsimp only); rw [LZ]; first | rw [if_pos (by omega)] | rw [if_neg (by omega)]⟩, fun j h1 h2 hb => G2 j h1 ((Classical.em (j ≤ p)).elim id (fun e => absurd ((BGE j h1).mpr hb) (hz147.2.2 j (by omega) h2))) hb, by (try dsimp only); omega, fun q => absurd q (by (try dsimp only); omega)⟩ (by (try dsimp only); omega)))
          · skip
            refine pe_iload_n d_M_layOut_123 rfl ?_
            refine pe_iconst d_M_layOut_124 ?_
            refine pe_iadd d_M_layOut_125 ?_
            refine pe_goto (t := 130) d_M_layOut_126 ?_
            refine pe_istore_n d_M_layOut_130 ?_
            refine pe_iload_n d_M_layOut_131 rfl ?_
            refine pe_aload_n d_M_layOut_132 rfl ?_
            refine pe_geti f_M_87 d_M_layOut_133 rfl rfl 1 rfl ?_
            refine pe_icmp_ne (t := 145) d_M_layOut_136 (by first | exact hB _ _ | exact hB0 _ _ | exact hBt _ _ | exact ⟨by omega, by omega⟩) (by first | exact hB _ _ | exact hB0 _ _ | exact hBt _ _ | exact ⟨by omega, by omega⟩) (fun h136 => ?_) (fun h136 => ?_)
            · skip
              refine pe_aload_n d_M_layOut_145 rfl ?_
              refine pe_iload_n d_M_layOut_146 rfl ?_
              refine pe_v1p d_M_layOut_147 c_M_107 i_M_after s_M_after rfl rfl (t_M_after hB (by omega) (by omega)) (fun z147 hz147 => ?_)
              have LZ : pe_ly (m 8) (m 0 0) (m 7 0) z147.toNat = if pe_cd (m 8) (m 0 0) p = 10 then (r2 + 1, 0) else (r2, c2 + w2) := (pe_ly_j hX.1 hz147.1.1 (fun j a b q => hz147.2.2 j a b ((BGE j (by omega)).mpr q))).trans ((pe_ly_s hX.1 hbp).trans NX)
              refine pe_istore_n d_M_layOut_150 ?_
              refine pe_goto (t := 6) d_M_layOut_151 ?_
              (first
              | (exfalso; omega)
              | (refine pe_drop 4 (pe_drop 5 ?_); exact ih (_, _, _, _) ⟨hB, (fun b hb => (f75 b (by simp at hb ⊢; try omega)).trans ((f72 b (by simp at hb ⊢; try omega)).trans ((f64 b (by simp at hb ⊢; try omega)).trans ((f57 b (by simp at hb ⊢; try omega)).trans (hfr b (by simp at hb ⊢; try omega)))))), (fun j hj => (o75 j (by simp at hj ⊢; try omega)).trans ((congrFun (f72 29 (by decide)) j).trans ((congrFun (f64 29 (by decide)) j).trans ((congrFun (f57 29 (by decide)) j).trans (hor j (by simp at hj ⊢; try omega)))))), fun q => absurd q (by (try dsimp only); omega), fun j h1 h2 hb => G2 j h1 (by (try dsimp only at *); omega) hb, by (try dsimp only); omega, fun _ => e75.trans (by rw [hr2, show p = m 0 0 by omega])⟩ (by (try dsimp only); omega))
              | (refine pe_drop 4 (pe_drop 5 ?_); exact ih (_, _, _, _) ⟨hB, (fun b hb => (f75 b (by simp at hb ⊢; try omega)).trans ((f72 b (by simp at hb ⊢; try omega)).trans ((f64 b (by simp at hb ⊢; try omega)).trans ((f57 b (by simp at hb ⊢; try omega)).trans (hfr b (by simp at hb ⊢; try omega)))))), (fun j hj => (o75 j (by simp at hj ⊢; try omega)).trans ((congrFun (f72 29 (by decide)) j).trans ((congrFun (f64 29 (by decide)) j).trans ((congrFun (f57 29 (by decide)) j).trans (hor j (by simp at hj ⊢; try omega)))))), fun q => ⟨(BGE _ (by (try dsimp only); omega)).mp hz147.2.1, by (try dsimp only); rw [LZ]; first | rw [if_pos (by omega)] | rw [if_neg (by omega)], by (try dsimp only); rw [LZ]; first | rw [if_pos (by omega)] | rw [if_neg (by omega)]⟩, fun j h1 h2 hb => G2 j h1 ((Classical.em (j ≤ p)).elim id (fun e => absurd ((BGE j h1).mpr hb) (hz147.2.2 j (by omega) h2))) hb, by (try dsimp only); omega, fun q => absurd q (by (try dsimp only); omega)⟩ (by (try dsimp only); omega)))
            · skip
              refine pe_iload_n d_M_layOut_139 rfl ?_
              refine pe_iconst d_M_layOut_140 ?_
              refine pe_iadd d_M_layOut_141 ?_
              refine pe_goto (t := 150) d_M_layOut_142 ?_
              refine pe_istore_n d_M_layOut_150 ?_
              refine pe_goto (t := 6) d_M_layOut_151 ?_
              (first
              | (exfalso; omega)
              | (refine pe_drop 4 (pe_drop 5 ?_); exact ih (_, _, _, _) ⟨hB, (fun b hb => (f75 b (by simp at hb ⊢; try omega)).trans ((f72 b (by simp at hb ⊢; try omega)).trans ((f64 b (by simp at hb ⊢; try omega)).trans ((f57 b (by simp at hb ⊢; try omega)).trans (hfr b (by simp at hb ⊢; try omega)))))), (fun j hj => (o75 j (by simp at hj ⊢; try omega)).trans ((congrFun (f72 29 (by decide)) j).trans ((congrFun (f64 29 (by decide)) j).trans ((congrFun (f57 29 (by decide)) j).trans (hor j (by simp at hj ⊢; try omega)))))), fun q => absurd q (by (try dsimp only); omega), fun j h1 h2 hb => G2 j h1 (by (try dsimp only at *); omega) hb, by (try dsimp only); omega, fun _ => e75.trans (by rw [hr2, show p = m 0 0 by omega])⟩ (by (try dsimp only); omega))
              | (refine pe_drop 4 (pe_drop 5 ?_); exact ih (_, _, _, _) ⟨hB, (fun b hb => (f75 b (by simp at hb ⊢; try omega)).trans ((f72 b (by simp at hb ⊢; try omega)).trans ((f64 b (by simp at hb ⊢; try omega)).trans ((f57 b (by simp at hb ⊢; try omega)).trans (hfr b (by simp at hb ⊢; try omega)))))), (fun j hj => (o75 j (by simp at hj ⊢; try omega)).trans ((congrFun (f72 29 (by decide)) j).trans ((congrFun (f64 29 (by decide)) j).trans ((congrFun (f57 29 (by decide)) j).trans (hor j (by simp at hj ⊢; try omega)))))), fun q => ⟨(BGE _ (by (try dsimp only); omega)).mp hz147.2.1, by (try dsimp only); rw [LZ]; first | rw [if_pos (by omega)] | rw [if_neg (by omega)], by (try dsimp only); rw [LZ]; first | rw [if_pos (by omega)] | rw [if_neg (by omega)]⟩, fun j h1 h2 hb => G2 j h1 ((Classical.em (j ≤ p)).elim id (fun e => absurd ((BGE j h1).mpr hb) (hz147.2.2 j (by omega) h2))) hb, by (try dsimp only); omega, fun q => absurd q (by (try dsimp only); omega)⟩ (by (try dsimp only); omega)))
        · skip
          refine pe_iconst d_M_layOut_109 ?_
          refine pe_goto (t := 117) d_M_layOut_110 ?_
          refine pe_istore_n d_M_layOut_117 ?_
          refine pe_iload d_M_layOut_118 rfl ?_
          refine pe_if_eq (t := 129) d_M_layOut_120 (by first | exact hB _ _ | exact hB0 _ _ | exact hBt _ _ | exact ⟨by omega, by omega⟩) (fun h120 => ?_) (fun h120 => ?_)
          · skip
            refine pe_iload_n d_M_layOut_129 rfl ?_
            refine pe_istore_n d_M_layOut_130 ?_
            refine pe_iload_n d_M_layOut_131 rfl ?_
            refine pe_aload_n d_M_layOut_132 rfl ?_
            refine pe_geti f_M_87 d_M_layOut_133 rfl rfl 1 rfl ?_
            refine pe_icmp_ne (t := 145) d_M_layOut_136 (by first | exact hB _ _ | exact hB0 _ _ | exact hBt _ _ | exact ⟨by omega, by omega⟩) (by first | exact hB _ _ | exact hB0 _ _ | exact hBt _ _ | exact ⟨by omega, by omega⟩) (fun h136 => ?_) (fun h136 => ?_)
            · skip
              refine pe_aload_n d_M_layOut_145 rfl ?_
              refine pe_iload_n d_M_layOut_146 rfl ?_
              refine pe_v1p d_M_layOut_147 c_M_107 i_M_after s_M_after rfl rfl (t_M_after hB (by omega) (by omega)) (fun z147 hz147 => ?_)
              have LZ : pe_ly (m 8) (m 0 0) (m 7 0) z147.toNat = if pe_cd (m 8) (m 0 0) p = 10 then (r2 + 1, 0) else (r2, c2 + w2) := (pe_ly_j hX.1 hz147.1.1 (fun j a b q => hz147.2.2 j a b ((BGE j (by omega)).mpr q))).trans ((pe_ly_s hX.1 hbp).trans NX)
              refine pe_istore_n d_M_layOut_150 ?_
              refine pe_goto (t := 6) d_M_layOut_151 ?_
              (first
              | (exfalso; omega)
              | (refine pe_drop 4 (pe_drop 5 ?_); exact ih (_, _, _, _) ⟨hB, (fun b hb => (f75 b (by simp at hb ⊢; try omega)).trans ((f72 b (by simp at hb ⊢; try omega)).trans ((f64 b (by simp at hb ⊢; try omega)).trans ((f57 b (by simp at hb ⊢; try omega)).trans (hfr b (by simp at hb ⊢; try omega)))))), (fun j hj => (o75 j (by simp at hj ⊢; try omega)).trans ((congrFun (f72 29 (by decide)) j).trans ((congrFun (f64 29 (by decide)) j).trans ((congrFun (f57 29 (by decide)) j).trans (hor j (by simp at hj ⊢; try omega)))))), fun q => absurd q (by (try dsimp only); omega), fun j h1 h2 hb => G2 j h1 (by (try dsimp only at *); omega) hb, by (try dsimp only); omega, fun _ => e75.trans (by rw [hr2, show p = m 0 0 by omega])⟩ (by (try dsimp only); omega))
              | (refine pe_drop 4 (pe_drop 5 ?_); exact ih (_, _, _, _) ⟨hB, (fun b hb => (f75 b (by simp at hb ⊢; try omega)).trans ((f72 b (by simp at hb ⊢; try omega)).trans ((f64 b (by simp at hb ⊢; try omega)).trans ((f57 b (by simp at hb ⊢; try omega)).trans (hfr b (by simp at hb ⊢; try omega)))))), (fun j hj => (o75 j (by simp at hj ⊢; try omega)).trans ((congrFun (f72 29 (by decide)) j).trans ((congrFun (f64 29 (by decide)) j).trans ((congrFun (f57 29 (by decide)) j).trans (hor j (by simp at hj ⊢; try omega)))))), fun q => ⟨(BGE _ (by (try dsimp only); omega)).mp hz147.2.1, by (try dsimp only); rw [LZ]; first | rw [if_pos (by omega)] | rw [if_neg (by omega)], by (try dsimp only); rw [LZ]; first | rw [if_pos (by omega)] | rw [if_neg (by omega)]⟩, fun j h1 h2 hb => G2 j h1 ((Classical.em (j ≤ p)).elim id (fun e => absurd ((BGE j h1).mpr hb) (hz147.2.2 j (by omega) h2))) hb, by (try dsimp only); omega, fun q => absurd q (by (try dsimp only); omega)⟩ (by (try dsimp only); omega)))
            · skip
              refine pe_iload_n d_M_layOut_139 rfl ?_
              refine pe_iconst d_M_layOut_140 ?_
              refine pe_iadd d_M_layOut_141 ?_
              refine pe_goto (t := 150) d_M_layOut_142 ?_
              refine pe_istore_n d_M_layOut_150 ?_
              refine pe_goto (t := 6) d_M_layOut_151 ?_
              (first
              | (exfalso; omega)
              | (refine pe_drop 4 (pe_drop 5 ?_); exact ih (_, _, _, _) ⟨hB, (fun b hb => (f75 b (by simp at hb ⊢; try omega)).trans ((f72 b (by simp at hb ⊢; try omega)).trans ((f64 b (by simp at hb ⊢; try omega)).trans ((f57 b (by simp at hb ⊢; try omega)).trans (hfr b (by simp at hb ⊢; try omega)))))), (fun j hj => (o75 j (by simp at hj ⊢; try omega)).trans ((congrFun (f72 29 (by decide)) j).trans ((congrFun (f64 29 (by decide)) j).trans ((congrFun (f57 29 (by decide)) j).trans (hor j (by simp at hj ⊢; try omega)))))), fun q => absurd q (by (try dsimp only); omega), fun j h1 h2 hb => G2 j h1 (by (try dsimp only at *); omega) hb, by (try dsimp only); omega, fun _ => e75.trans (by rw [hr2, show p = m 0 0 by omega])⟩ (by (try dsimp only); omega))
              | (refine pe_drop 4 (pe_drop 5 ?_); exact ih (_, _, _, _) ⟨hB, (fun b hb => (f75 b (by simp at hb ⊢; try omega)).trans ((f72 b (by simp at hb ⊢; try omega)).trans ((f64 b (by simp at hb ⊢; try omega)).trans ((f57 b (by simp at hb ⊢; try omega)).trans (hfr b (by simp at hb ⊢; try omega)))))), (fun j hj => (o75 j (by simp at hj ⊢; try omega)).trans ((congrFun (f72 29 (by decide)) j).trans ((congrFun (f64 29 (by decide)) j).trans ((congrFun (f57 29 (by decide)) j).trans (hor j (by simp at hj ⊢; try omega)))))), fun q => ⟨(BGE _ (by (try dsimp only); omega)).mp hz147.2.1, by (try dsimp only); rw [LZ]; first | rw [if_pos (by omega)] | rw [if_neg (by omega)], by (try dsimp only); rw [LZ]; first | rw [if_pos (by omega)] | rw [if_neg (by omega)]⟩, fun j h1 h2 hb => G2 j h1 ((Classical.em (j ≤ p)).elim id (fun e => absurd ((BGE j h1).mpr hb) (hz147.2.2 j (by omega) h2))) hb, by (try dsimp only); omega, fun q => absurd q (by (try dsimp only); omega)⟩ (by (try dsimp only); omega)))
          · skip
            refine pe_iload_n d_M_layOut_123 rfl ?_
            refine pe_iconst d_M_layOut_124 ?_
            refine pe_iadd d_M_layOut_125 ?_
            refine pe_goto (t := 130) d_M_layOut_126 ?_
            refine pe_istore_n d_M_layOut_130 ?_
            refine pe_iload_n d_M_layOut_131 rfl ?_
            refine pe_aload_n d_M_layOut_132 rfl ?_
            refine pe_geti f_M_87 d_M_layOut_133 rfl rfl 1 rfl ?_
            refine pe_icmp_ne (t := 145) d_M_layOut_136 (by first | exact hB _ _ | exact hB0 _ _ | exact hBt _ _ | exact ⟨by omega, by omega⟩) (by first | exact hB _ _ | exact hB0 _ _ | exact hBt _ _ | exact ⟨by omega, by omega⟩) (fun h136 => ?_) (fun h136 => ?_)
            · skip
              refine pe_aload_n d_M_layOut_145 rfl ?_
              refine pe_iload_n d_M_layOut_146 rfl ?_
              refine pe_v1p d_M_layOut_147 c_M_107 i_M_after s_M_after rfl rfl (t_M_after hB (by omega) (by omega)) (fun z147 hz147 => ?_)
              have LZ : pe_ly (m 8) (m 0 0) (m 7 0) z147.toNat = if pe_cd (m 8) (m 0 0) p = 10 then (r2 + 1, 0) else (r2, c2 + w2) := (pe_ly_j hX.1 hz147.1.1 (fun j a b q => hz147.2.2 j a b ((BGE j (by omega)).mpr q))).trans ((pe_ly_s hX.1 hbp).trans NX)
              refine pe_istore_n d_M_layOut_150 ?_
              refine pe_goto (t := 6) d_M_layOut_151 ?_
              (first
              | (exfalso; omega)
              | (refine pe_drop 4 (pe_drop 5 ?_); exact ih (_, _, _, _) ⟨hB, (fun b hb => (f75 b (by simp at hb ⊢; try omega)).trans ((f72 b (by simp at hb ⊢; try omega)).trans ((f64 b (by simp at hb ⊢; try omega)).trans ((f57 b (by simp at hb ⊢; try omega)).trans (hfr b (by simp at hb ⊢; try omega)))))), (fun j hj => (o75 j (by simp at hj ⊢; try omega)).trans ((congrFun (f72 29 (by decide)) j).trans ((congrFun (f64 29 (by decide)) j).trans ((congrFun (f57 29 (by decide)) j).trans (hor j (by simp at hj ⊢; try omega)))))), fun q => absurd q (by (try dsimp only); omega), fun j h1 h2 hb => G2 j h1 (by (try dsimp only at *); omega) hb, by (try dsimp only); omega, fun _ => e75.trans (by rw [hr2, show p = m 0 0 by omega])⟩ (by (try dsimp only); omega))
              | (refine pe_drop 4 (pe_drop 5 ?_); exact ih (_, _, _, _) ⟨hB, (fun b hb => (f75 b (by simp at hb ⊢; try omega)).trans ((f72 b (by simp at hb ⊢; try omega)).trans ((f64 b (by simp at hb ⊢; try omega)).trans ((f57 b (by simp at hb ⊢; try omega)).trans (hfr b (by simp at hb ⊢; try omega)))))), (fun j hj => (o75 j (by simp at hj ⊢; try omega)).trans ((congrFun (f72 29 (by decide)) j).trans ((congrFun (f64 29 (by decide)) j).trans ((congrFun (f57 29 (by decide)) j).trans (hor j (by simp at hj ⊢; try omega)))))), fun q => ⟨(BGE _ (by (try dsimp only); omega)).mp hz147.2.1, by (try dsimp only); rw [LZ]; first | rw [if_pos (by omega)] | rw [if_neg (by omega)], by (try dsimp only); rw [LZ]; first | rw [if_pos (by omega)] | rw [if_neg (by omega)]⟩, fun j h1 h2 hb => G2 j h1 ((Classical.em (j ≤ p)).elim id (fun e => absurd ((BGE j h1).mpr hb) (hz147.2.2 j (by omega) h2))) hb, by (try dsimp only); omega, fun q => absurd q (by (try dsimp only); omega)⟩ (by (try dsimp only); omega)))
            · skip
              refine pe_iload_n d_M_layOut_139 rfl ?_
              refine pe_iconst d_M_layOut_140 ?_
              refine pe_iadd d_M_layOut_141 ?_
              refine pe_goto (t := 150) d_M_layOut_142 ?_
              refine pe_istore_n d_M_layOut_150 ?_
              refine pe_goto (t := 6) d_M_layOut_151 ?_
              (first
              | (exfalso; omega)
              | (refine pe_drop 4 (pe_drop 5 ?_); exact ih (_, _, _, _) ⟨hB, (fun b hb => (f75 b (by simp at hb ⊢; try omega)).trans ((f72 b (by simp at hb ⊢; try omega)).trans ((f64 b (by simp at hb ⊢; try omega)).trans ((f57 b (by simp at hb ⊢; try omega)).trans (hfr b (by simp at hb ⊢; try omega)))))), (fun j hj => (o75 j (by simp at hj ⊢; try omega)).trans ((congrFun (f72 29 (by decide)) j).trans ((congrFun (f64 29 (by decide)) j).trans ((congrFun (f57 29 (by decide)) j).trans (hor j (by simp at hj ⊢; try omega)))))), fun q => absurd q (by (try dsimp only); omega), fun j h1 h2 hb => G2 j h1 (by (try dsimp only at *); omega) hb, by (try dsimp only); omega, fun _ => e75.trans (by rw [hr2, show p = m 0 0 by omega])⟩ (by (try dsimp only); omega))
              | (refine pe_drop 4 (pe_drop 5 ?_); exact ih (_, _, _, _) ⟨hB, (fun b hb => (f75 b (by simp at hb ⊢; try omega)).trans ((f72 b (by simp at hb ⊢; try omega)).trans ((f64 b (by simp at hb ⊢; try omega)).trans ((f57 b (by simp at hb ⊢; try omega)).trans (hfr b (by simp at hb ⊢; try omega)))))), (fun j hj => (o75 j (by simp at hj ⊢; try omega)).trans ((congrFun (f72 29 (by decide)) j).trans ((congrFun (f64 29 (by decide)) j).trans ((congrFun (f57 29 (by decide)) j).trans (hor j (by simp at hj ⊢; try omega)))))), fun q => ⟨(BGE _ (by (try dsimp only); omega)).mp hz147.2.1, by (try dsimp only); rw [LZ]; first | rw [if_pos (by omega)] | rw [if_neg (by omega)], by (try dsimp only); rw [LZ]; first | rw [if_pos (by omega)] | rw [if_neg (by omega)]⟩, fun j h1 h2 hb => G2 j h1 ((Classical.em (j ≤ p)).elim id (fun e => absurd ((BGE j h1).mpr hb) (hz147.2.2 j (by omega) h2))) hb, by (try dsimp only); omega, fun q => absurd q (by (try dsimp only); omega)⟩ (by (try dsimp only); omega)))
      · skip
        refine pe_aload_n d_M_layOut_86 rfl ?_
        refine pe_getr f_M_7 d_M_layOut_87 rfl rfl ?_
        refine pe_iload_n d_M_layOut_90 rfl ?_
        refine pe_iald d_M_layOut_91 rfl (by omega) (by omega) ?_
        refine pe_bipush d_M_layOut_92 ?_
        refine pe_icmp_ne (t := 101) d_M_layOut_94 (by first | exact hB _ _ | exact hB0 _ _ | exact hBt _ _ | exact ⟨by omega, by omega⟩) (by first | exact hB _ _ | exact hB0 _ _ | exact hBt _ _ | exact ⟨by omega, by omega⟩) (fun h94 => ?_) (fun h94 => ?_)
        · skip
          refine pe_iconst d_M_layOut_101 ?_
          refine pe_istore d_M_layOut_102 ?_
          refine pe_iload d_M_layOut_104 rfl ?_
          refine pe_if_eq (t := 113) d_M_layOut_106 (by first | exact hB _ _ | exact hB0 _ _ | exact hBt _ _ | exact ⟨by omega, by omega⟩) (fun h106 => ?_) (fun h106 => ?_)
          · skip
            refine pe_iload_n d_M_layOut_113 rfl ?_
            refine pe_iload d_M_layOut_114 rfl ?_
            refine pe_iadd d_M_layOut_116 ?_
            refine pe_istore_n d_M_layOut_117 ?_
            refine pe_iload d_M_layOut_118 rfl ?_
            refine pe_if_eq (t := 129) d_M_layOut_120 (by first | exact hB _ _ | exact hB0 _ _ | exact hBt _ _ | exact ⟨by omega, by omega⟩) (fun h120 => ?_) (fun h120 => ?_)
            · skip
              refine pe_iload_n d_M_layOut_129 rfl ?_
              refine pe_istore_n d_M_layOut_130 ?_
              refine pe_iload_n d_M_layOut_131 rfl ?_
              refine pe_aload_n d_M_layOut_132 rfl ?_
              refine pe_geti f_M_87 d_M_layOut_133 rfl rfl 1 rfl ?_
              refine pe_icmp_ne (t := 145) d_M_layOut_136 (by first | exact hB _ _ | exact hB0 _ _ | exact hBt _ _ | exact ⟨by omega, by omega⟩) (by first | exact hB _ _ | exact hB0 _ _ | exact hBt _ _ | exact ⟨by omega, by omega⟩) (fun h136 => ?_) (fun h136 => ?_)
              · skip
                refine pe_aload_n d_M_layOut_145 rfl ?_
                refine pe_iload_n d_M_layOut_146 rfl ?_
                refine pe_v1p d_M_layOut_147 c_M_107 i_M_after s_M_after rfl rfl (t_M_after hB (by omega) (by omega)) (fun z147 hz147 => ?_)
                have LZ : pe_ly (m 8) (m 0 0) (m 7 0) z147.toNat = if pe_cd (m 8) (m 0 0) p = 10 then (r2 + 1, 0) else (r2, c2 + w2) := (pe_ly_j hX.1 hz147.1.1 (fun j a b q => hz147.2.2 j a b ((BGE j (by omega)).mpr q))).trans ((pe_ly_s hX.1 hbp).trans NX)
                refine pe_istore_n d_M_layOut_150 ?_
                refine pe_goto (t := 6) d_M_layOut_151 ?_
                (first
                | (exfalso; omega)
                | (refine pe_drop 4 (pe_drop 5 ?_); exact ih (_, _, _, _) ⟨hB, (fun b hb => (f75 b (by simp at hb ⊢; try omega)).trans ((f72 b (by simp at hb ⊢; try omega)).trans ((f64 b (by simp at hb ⊢; try omega)).trans ((f57 b (by simp at hb ⊢; try omega)).trans (hfr b (by simp at hb ⊢; try omega)))))), (fun j hj => (o75 j (by simp at hj ⊢; try omega)).trans ((congrFun (f72 29 (by decide)) j).trans ((congrFun (f64 29 (by decide)) j).trans ((congrFun (f57 29 (by decide)) j).trans (hor j (by simp at hj ⊢; try omega)))))), fun q => absurd q (by (try dsimp only); omega), fun j h1 h2 hb => G2 j h1 (by (try dsimp only at *); omega) hb, by (try dsimp only); omega, fun _ => e75.trans (by rw [hr2, show p = m 0 0 by omega])⟩ (by (try dsimp only); omega))
                | (refine pe_drop 4 (pe_drop 5 ?_); exact ih (_, _, _, _) ⟨hB, (fun b hb => (f75 b (by simp at hb ⊢; try omega)).trans ((f72 b (by simp at hb ⊢; try omega)).trans ((f64 b (by simp at hb ⊢; try omega)).trans ((f57 b (by simp at hb ⊢; try omega)).trans (hfr b (by simp at hb ⊢; try omega)))))), (fun j hj => (o75 j (by simp at hj ⊢; try omega)).trans ((congrFun (f72 29 (by decide)) j).trans ((congrFun (f64 29 (by decide)) j).trans ((congrFun (f57 29 (by decide)) j).trans (hor j (by simp at hj ⊢; try omega)))))), fun q => ⟨(BGE _ (by (try dsimp only); omega)).mp hz147.2.1, by (try dsimp only); rw [LZ]; first | rw [if_pos (by omega)] | rw [if_neg (by omega)], by (try dsimp only); rw [LZ]; first | rw [if_pos (by omega)] | rw [if_neg (by omega)]⟩, fun j h1 h2 hb => G2 j h1 ((Classical.em (j ≤ p)).elim id (fun e => absurd ((BGE j h1).mpr hb) (hz147.2.2 j (by omega) h2))) hb, by (try dsimp only); omega, fun q => absurd q (by (try dsimp only); omega)⟩ (by (try dsimp only); omega)))
              · skip
                refine pe_iload_n d_M_layOut_139 rfl ?_
                refine pe_iconst d_M_layOut_140 ?_
                refine pe_iadd d_M_layOut_141 ?_
                refine pe_goto (t := 150) d_M_layOut_142 ?_
                refine pe_istore_n d_M_layOut_150 ?_
                refine pe_goto (t := 6) d_M_layOut_151 ?_
                (first
                | (exfalso; omega)
                | (refine pe_drop 4 (pe_drop 5 ?_); exact ih (_, _, _, _) ⟨hB, (fun b hb => (f75 b (by simp at hb ⊢; try omega)).trans ((f72 b (by simp at hb ⊢; try omega)).trans ((f64 b (by simp at hb ⊢; try omega)).trans ((f57 b (by simp at hb ⊢; try omega)).trans (hfr b (by simp at hb ⊢; try omega)))))), (fun j hj => (o75 j (by simp at hj ⊢; try omega)).trans ((congrFun (f72 29 (by decide)) j).trans ((congrFun (f64 29 (by decide)) j).trans ((congrFun (f57 29 (by decide)) j).trans (hor j (by simp at hj ⊢; try omega)))))), fun q => absurd q (by (try dsimp only); omega), fun j h1 h2 hb => G2 j h1 (by (try dsimp only at *); omega) hb, by (try dsimp only); omega, fun _ => e75.trans (by rw [hr2, show p = m 0 0 by omega])⟩ (by (try dsimp only); omega))
                | (refine pe_drop 4 (pe_drop 5 ?_); exact ih (_, _, _, _) ⟨hB, (fun b hb => (f75 b (by simp at hb ⊢; try omega)).trans ((f72 b (by simp at hb ⊢; try omega)).trans ((f64 b (by simp at hb ⊢; try omega)).trans ((f57 b (by simp at hb ⊢; try omega)).trans (hfr b (by simp at hb ⊢; try omega)))))), (fun j hj => (o75 j (by simp at hj ⊢; try omega)).trans ((congrFun (f72 29 (by decide)) j).trans ((congrFun (f64 29 (by decide)) j).trans ((congrFun (f57 29 (by decide)) j).trans (hor j (by simp at hj ⊢; try omega)))))), fun q => ⟨(BGE _ (by (try dsimp only); omega)).mp hz147.2.1, by (try dsimp only); rw [LZ]; first | rw [if_pos (by omega)] | rw [if_neg (by omega)], by (try dsimp only); rw [LZ]; first | rw [if_pos (by omega)] | rw [if_neg (by omega)]⟩, fun j h1 h2 hb => G2 j h1 ((Classical.em (j ≤ p)).elim id (fun e => absurd ((BGE j h1).mpr hb) (hz147.2.2 j (by omega) h2))) hb, by (try dsimp only); omega, fun q => absurd q (by (try dsimp only); omega)⟩ (by (try dsimp only); omega)))
            · skip
              refine pe_iload_n d_M_layOut_123 rfl ?_
              refine pe_iconst d_M_layOut_124 ?_
              refine pe_iadd d_M_layOut_125 ?_
              refine pe_goto (t := 130) d_M_layOut_126 ?_
              refine pe_istore_n d_M_layOut_130 ?_
              refine pe_iload_n d_M_layOut_131 rfl ?_
              refine pe_aload_n d_M_layOut_132 rfl ?_
              refine pe_geti f_M_87 d_M_layOut_133 rfl rfl 1 rfl ?_
              refine pe_icmp_ne (t := 145) d_M_layOut_136 (by first | exact hB _ _ | exact hB0 _ _ | exact hBt _ _ | exact ⟨by omega, by omega⟩) (by first | exact hB _ _ | exact hB0 _ _ | exact hBt _ _ | exact ⟨by omega, by omega⟩) (fun h136 => ?_) (fun h136 => ?_)
              · skip
                refine pe_aload_n d_M_layOut_145 rfl ?_
                refine pe_iload_n d_M_layOut_146 rfl ?_
                refine pe_v1p d_M_layOut_147 c_M_107 i_M_after s_M_after rfl rfl (t_M_after hB (by omega) (by omega)) (fun z147 hz147 => ?_)
                have LZ : pe_ly (m 8) (m 0 0) (m 7 0) z147.toNat = if pe_cd (m 8) (m 0 0) p = 10 then (r2 + 1, 0) else (r2, c2 + w2) := (pe_ly_j hX.1 hz147.1.1 (fun j a b q => hz147.2.2 j a b ((BGE j (by omega)).mpr q))).trans ((pe_ly_s hX.1 hbp).trans NX)
                refine pe_istore_n d_M_layOut_150 ?_
                refine pe_goto (t := 6) d_M_layOut_151 ?_
                (first
                | (exfalso; omega)
                | (refine pe_drop 4 (pe_drop 5 ?_); exact ih (_, _, _, _) ⟨hB, (fun b hb => (f75 b (by simp at hb ⊢; try omega)).trans ((f72 b (by simp at hb ⊢; try omega)).trans ((f64 b (by simp at hb ⊢; try omega)).trans ((f57 b (by simp at hb ⊢; try omega)).trans (hfr b (by simp at hb ⊢; try omega)))))), (fun j hj => (o75 j (by simp at hj ⊢; try omega)).trans ((congrFun (f72 29 (by decide)) j).trans ((congrFun (f64 29 (by decide)) j).trans ((congrFun (f57 29 (by decide)) j).trans (hor j (by simp at hj ⊢; try omega)))))), fun q => absurd q (by (try dsimp only); omega), fun j h1 h2 hb => G2 j h1 (by (try dsimp only at *); omega) hb, by (try dsimp only); omega, fun _ => e75.trans (by rw [hr2, show p = m 0 0 by omega])⟩ (by (try dsimp only); omega))
                | (refine pe_drop 4 (pe_drop 5 ?_); exact ih (_, _, _, _) ⟨hB, (fun b hb => (f75 b (by simp at hb ⊢; try omega)).trans ((f72 b (by simp at hb ⊢; try omega)).trans ((f64 b (by simp at hb ⊢; try omega)).trans ((f57 b (by simp at hb ⊢; try omega)).trans (hfr b (by simp at hb ⊢; try omega)))))), (fun j hj => (o75 j (by simp at hj ⊢; try omega)).trans ((congrFun (f72 29 (by decide)) j).trans ((congrFun (f64 29 (by decide)) j).trans ((congrFun (f57 29 (by decide)) j).trans (hor j (by simp at hj ⊢; try omega)))))), fun q => ⟨(BGE _ (by (try dsimp only); omega)).mp hz147.2.1, by (try dsimp only); rw [LZ]; first | rw [if_pos (by omega)] | rw [if_neg (by omega)], by (try dsimp only); rw [LZ]; first | rw [if_pos (by omega)] | rw [if_neg (by omega)]⟩, fun j h1 h2 hb => G2 j h1 ((Classical.em (j ≤ p)).elim id (fun e => absurd ((BGE j h1).mpr hb) (hz147.2.2 j (by omega) h2))) hb, by (try dsimp only); omega, fun q => absurd q (by (try dsimp only); omega)⟩ (by (try dsimp only); omega)))
              · skip
                refine pe_iload_n d_M_layOut_139 rfl ?_
                refine pe_iconst d_M_layOut_140 ?_
                refine pe_iadd d_M_layOut_141 ?_
                refine pe_goto (t := 150) d_M_layOut_142 ?_
                refine pe_istore_n d_M_layOut_150 ?_
                refine pe_goto (t := 6) d_M_layOut_151 ?_
                (first
                | (exfalso; omega)
                | (refine pe_drop 4 (pe_drop 5 ?_); exact ih (_, _, _, _) ⟨hB, (fun b hb => (f75 b (by simp at hb ⊢; try omega)).trans ((f72 b (by simp at hb ⊢; try omega)).trans ((f64 b (by simp at hb ⊢; try omega)).trans ((f57 b (by simp at hb ⊢; try omega)).trans (hfr b (by simp at hb ⊢; try omega)))))), (fun j hj => (o75 j (by simp at hj ⊢; try omega)).trans ((congrFun (f72 29 (by decide)) j).trans ((congrFun (f64 29 (by decide)) j).trans ((congrFun (f57 29 (by decide)) j).trans (hor j (by simp at hj ⊢; try omega)))))), fun q => absurd q (by (try dsimp only); omega), fun j h1 h2 hb => G2 j h1 (by (try dsimp only at *); omega) hb, by (try dsimp only); omega, fun _ => e75.trans (by rw [hr2, show p = m 0 0 by omega])⟩ (by (try dsimp only); omega))
                | (refine pe_drop 4 (pe_drop 5 ?_); exact ih (_, _, _, _) ⟨hB, (fun b hb => (f75 b (by simp at hb ⊢; try omega)).trans ((f72 b (by simp at hb ⊢; try omega)).trans ((f64 b (by simp at hb ⊢; try omega)).trans ((f57 b (by simp at hb ⊢; try omega)).trans (hfr b (by simp at hb ⊢; try omega)))))), (fun j hj => (o75 j (by simp at hj ⊢; try omega)).trans ((congrFun (f72 29 (by decide)) j).trans ((congrFun (f64 29 (by decide)) j).trans ((congrFun (f57 29 (by decide)) j).trans (hor j (by simp at hj ⊢; try omega)))))), fun q => ⟨(BGE _ (by (try dsimp only); omega)).mp hz147.2.1, by (try dsimp only); rw [LZ]; first | rw [if_pos (by omega)] | rw [if_neg (by omega)], by (try dsimp only); rw [LZ]; first | rw [if_pos (by omega)] | rw [if_neg (by omega)]⟩, fun j h1 h2 hb => G2 j h1 ((Classical.em (j ≤ p)).elim id (fun e => absurd ((BGE j h1).mpr hb) (hz147.2.2 j (by omega) h2))) hb, by (try dsimp only); omega, fun q => absurd q (by (try dsimp only); omega)⟩ (by (try dsimp only); omega)))
          · skip
            refine pe_iconst d_M_layOut_109 ?_
            refine pe_goto (t := 117) d_M_layOut_110 ?_
            refine pe_istore_n d_M_layOut_117 ?_
            refine pe_iload d_M_layOut_118 rfl ?_
            refine pe_if_eq (t := 129) d_M_layOut_120 (by first | exact hB _ _ | exact hB0 _ _ | exact hBt _ _ | exact ⟨by omega, by omega⟩) (fun h120 => ?_) (fun h120 => ?_)
            · skip
              refine pe_iload_n d_M_layOut_129 rfl ?_
              refine pe_istore_n d_M_layOut_130 ?_
              refine pe_iload_n d_M_layOut_131 rfl ?_
              refine pe_aload_n d_M_layOut_132 rfl ?_
              refine pe_geti f_M_87 d_M_layOut_133 rfl rfl 1 rfl ?_
              refine pe_icmp_ne (t := 145) d_M_layOut_136 (by first | exact hB _ _ | exact hB0 _ _ | exact hBt _ _ | exact ⟨by omega, by omega⟩) (by first | exact hB _ _ | exact hB0 _ _ | exact hBt _ _ | exact ⟨by omega, by omega⟩) (fun h136 => ?_) (fun h136 => ?_)
              · skip
                refine pe_aload_n d_M_layOut_145 rfl ?_
                refine pe_iload_n d_M_layOut_146 rfl ?_
                refine pe_v1p d_M_layOut_147 c_M_107 i_M_after s_M_after rfl rfl (t_M_after hB (by omega) (by omega)) (fun z147 hz147 => ?_)
                have LZ : pe_ly (m 8) (m 0 0) (m 7 0) z147.toNat = if pe_cd (m 8) (m 0 0) p = 10 then (r2 + 1, 0) else (r2, c2 + w2) := (pe_ly_j hX.1 hz147.1.1 (fun j a b q => hz147.2.2 j a b ((BGE j (by omega)).mpr q))).trans ((pe_ly_s hX.1 hbp).trans NX)
                refine pe_istore_n d_M_layOut_150 ?_
                refine pe_goto (t := 6) d_M_layOut_151 ?_
                (first
                | (exfalso; omega)
                | (refine pe_drop 4 (pe_drop 5 ?_); exact ih (_, _, _, _) ⟨hB, (fun b hb => (f75 b (by simp at hb ⊢; try omega)).trans ((f72 b (by simp at hb ⊢; try omega)).trans ((f64 b (by simp at hb ⊢; try omega)).trans ((f57 b (by simp at hb ⊢; try omega)).trans (hfr b (by simp at hb ⊢; try omega)))))), (fun j hj => (o75 j (by simp at hj ⊢; try omega)).trans ((congrFun (f72 29 (by decide)) j).trans ((congrFun (f64 29 (by decide)) j).trans ((congrFun (f57 29 (by decide)) j).trans (hor j (by simp at hj ⊢; try omega)))))), fun q => absurd q (by (try dsimp only); omega), fun j h1 h2 hb => G2 j h1 (by (try dsimp only at *); omega) hb, by (try dsimp only); omega, fun _ => e75.trans (by rw [hr2, show p = m 0 0 by omega])⟩ (by (try dsimp only); omega))
                | (refine pe_drop 4 (pe_drop 5 ?_); exact ih (_, _, _, _) ⟨hB, (fun b hb => (f75 b (by simp at hb ⊢; try omega)).trans ((f72 b (by simp at hb ⊢; try omega)).trans ((f64 b (by simp at hb ⊢; try omega)).trans ((f57 b (by simp at hb ⊢; try omega)).trans (hfr b (by simp at hb ⊢; try omega)))))), (fun j hj => (o75 j (by simp at hj ⊢; try omega)).trans ((congrFun (f72 29 (by decide)) j).trans ((congrFun (f64 29 (by decide)) j).trans ((congrFun (f57 29 (by decide)) j).trans (hor j (by simp at hj ⊢; try omega)))))), fun q => ⟨(BGE _ (by (try dsimp only); omega)).mp hz147.2.1, by (try dsimp only); rw [LZ]; first | rw [if_pos (by omega)] | rw [if_neg (by omega)], by (try dsimp only); rw [LZ]; first | rw [if_pos (by omega)] | rw [if_neg (by omega)]⟩, fun j h1 h2 hb => G2 j h1 ((Classical.em (j ≤ p)).elim id (fun e => absurd ((BGE j h1).mpr hb) (hz147.2.2 j (by omega) h2))) hb, by (try dsimp only); omega, fun q => absurd q (by (try dsimp only); omega)⟩ (by (try dsimp only); omega)))
              · skip
                refine pe_iload_n d_M_layOut_139 rfl ?_
                refine pe_iconst d_M_layOut_140 ?_
                refine pe_iadd d_M_layOut_141 ?_
                refine pe_goto (t := 150) d_M_layOut_142 ?_
                refine pe_istore_n d_M_layOut_150 ?_
                refine pe_goto (t := 6) d_M_layOut_151 ?_
                (first
                | (exfalso; omega)
                | (refine pe_drop 4 (pe_drop 5 ?_); exact ih (_, _, _, _) ⟨hB, (fun b hb => (f75 b (by simp at hb ⊢; try omega)).trans ((f72 b (by simp at hb ⊢; try omega)).trans ((f64 b (by simp at hb ⊢; try omega)).trans ((f57 b (by simp at hb ⊢; try omega)).trans (hfr b (by simp at hb ⊢; try omega)))))), (fun j hj => (o75 j (by simp at hj ⊢; try omega)).trans ((congrFun (f72 29 (by decide)) j).trans ((congrFun (f64 29 (by decide)) j).trans ((congrFun (f57 29 (by decide)) j).trans (hor j (by simp at hj ⊢; try omega)))))), fun q => absurd q (by (try dsimp only); omega), fun j h1 h2 hb => G2 j h1 (by (try dsimp only at *); omega) hb, by (try dsimp only); omega, fun _ => e75.trans (by rw [hr2, show p = m 0 0 by omega])⟩ (by (try dsimp only); omega))
                | (refine pe_drop 4 (pe_drop 5 ?_); exact ih (_, _, _, _) ⟨hB, (fun b hb => (f75 b (by simp at hb ⊢; try omega)).trans ((f72 b (by simp at hb ⊢; try omega)).trans ((f64 b (by simp at hb ⊢; try omega)).trans ((f57 b (by simp at hb ⊢; try omega)).trans (hfr b (by simp at hb ⊢; try omega)))))), (fun j hj => (o75 j (by simp at hj ⊢; try omega)).trans ((congrFun (f72 29 (by decide)) j).trans ((congrFun (f64 29 (by decide)) j).trans ((congrFun (f57 29 (by decide)) j).trans (hor j (by simp at hj ⊢; try omega)))))), fun q => ⟨(BGE _ (by (try dsimp only); omega)).mp hz147.2.1, by (try dsimp only); rw [LZ]; first | rw [if_pos (by omega)] | rw [if_neg (by omega)], by (try dsimp only); rw [LZ]; first | rw [if_pos (by omega)] | rw [if_neg (by omega)]⟩, fun j h1 h2 hb => G2 j h1 ((Classical.em (j ≤ p)).elim id (fun e => absurd ((BGE j h1).mpr hb) (hz147.2.2 j (by omega) h2))) hb, by (try dsimp only); omega, fun q => absurd q (by (try dsimp only); omega)⟩ (by (try dsimp only); omega)))
            · skip
              refine pe_iload_n d_M_layOut_123 rfl ?_
              refine pe_iconst d_M_layOut_124 ?_
              refine pe_iadd d_M_layOut_125 ?_
              refine pe_goto (t := 130) d_M_layOut_126 ?_
              refine pe_istore_n d_M_layOut_130 ?_
              refine pe_iload_n d_M_layOut_131 rfl ?_
              refine pe_aload_n d_M_layOut_132 rfl ?_
              refine pe_geti f_M_87 d_M_layOut_133 rfl rfl 1 rfl ?_
              refine pe_icmp_ne (t := 145) d_M_layOut_136 (by first | exact hB _ _ | exact hB0 _ _ | exact hBt _ _ | exact ⟨by omega, by omega⟩) (by first | exact hB _ _ | exact hB0 _ _ | exact hBt _ _ | exact ⟨by omega, by omega⟩) (fun h136 => ?_) (fun h136 => ?_)
              · skip
                refine pe_aload_n d_M_layOut_145 rfl ?_
                refine pe_iload_n d_M_layOut_146 rfl ?_
                refine pe_v1p d_M_layOut_147 c_M_107 i_M_after s_M_after rfl rfl (t_M_after hB (by omega) (by omega)) (fun z147 hz147 => ?_)
                have LZ : pe_ly (m 8) (m 0 0) (m 7 0) z147.toNat = if pe_cd (m 8) (m 0 0) p = 10 then (r2 + 1, 0) else (r2, c2 + w2) := (pe_ly_j hX.1 hz147.1.1 (fun j a b q => hz147.2.2 j a b ((BGE j (by omega)).mpr q))).trans ((pe_ly_s hX.1 hbp).trans NX)
                refine pe_istore_n d_M_layOut_150 ?_
                refine pe_goto (t := 6) d_M_layOut_151 ?_
                (first
                | (exfalso; omega)
                | (refine pe_drop 4 (pe_drop 5 ?_); exact ih (_, _, _, _) ⟨hB, (fun b hb => (f75 b (by simp at hb ⊢; try omega)).trans ((f72 b (by simp at hb ⊢; try omega)).trans ((f64 b (by simp at hb ⊢; try omega)).trans ((f57 b (by simp at hb ⊢; try omega)).trans (hfr b (by simp at hb ⊢; try omega)))))), (fun j hj => (o75 j (by simp at hj ⊢; try omega)).trans ((congrFun (f72 29 (by decide)) j).trans ((congrFun (f64 29 (by decide)) j).trans ((congrFun (f57 29 (by decide)) j).trans (hor j (by simp at hj ⊢; try omega)))))), fun q => absurd q (by (try dsimp only); omega), fun j h1 h2 hb => G2 j h1 (by (try dsimp only at *); omega) hb, by (try dsimp only); omega, fun _ => e75.trans (by rw [hr2, show p = m 0 0 by omega])⟩ (by (try dsimp only); omega))
                | (refine pe_drop 4 (pe_drop 5 ?_); exact ih (_, _, _, _) ⟨hB, (fun b hb => (f75 b (by simp at hb ⊢; try omega)).trans ((f72 b (by simp at hb ⊢; try omega)).trans ((f64 b (by simp at hb ⊢; try omega)).trans ((f57 b (by simp at hb ⊢; try omega)).trans (hfr b (by simp at hb ⊢; try omega)))))), (fun j hj => (o75 j (by simp at hj ⊢; try omega)).trans ((congrFun (f72 29 (by decide)) j).trans ((congrFun (f64 29 (by decide)) j).trans ((congrFun (f57 29 (by decide)) j).trans (hor j (by simp at hj ⊢; try omega)))))), fun q => ⟨(BGE _ (by (try dsimp only); omega)).mp hz147.2.1, by (try dsimp only); rw [LZ]; first | rw [if_pos (by omega)] | rw [if_neg (by omega)], by (try dsimp only); rw [LZ]; first | rw [if_pos (by omega)] | rw [if_neg (by omega)]⟩, fun j h1 h2 hb => G2 j h1 ((Classical.em (j ≤ p)).elim id (fun e => absurd ((BGE j h1).mpr hb) (hz147.2.2 j (by omega) h2))) hb, by (try dsimp only); omega, fun q => absurd q (by (try dsimp only); omega)⟩ (by (try dsimp only); omega)))
              · skip
                refine pe_iload_n d_M_layOut_139 rfl ?_
                refine pe_iconst d_M_layOut_140 ?_
                refine pe_iadd d_M_layOut_141 ?_
                refine pe_goto (t := 150) d_M_layOut_142 ?_
                refine pe_istore_n d_M_layOut_150 ?_
                refine pe_goto (t := 6) d_M_layOut_151 ?_
                (first
                | (exfalso; omega)
                | (refine pe_drop 4 (pe_drop 5 ?_); exact ih (_, _, _, _) ⟨hB, (fun b hb => (f75 b (by simp at hb ⊢; try omega)).trans ((f72 b (by simp at hb ⊢; try omega)).trans ((f64 b (by simp at hb ⊢; try omega)).trans ((f57 b (by simp at hb ⊢; try omega)).trans (hfr b (by simp at hb ⊢; try omega)))))), (fun j hj => (o75 j (by simp at hj ⊢; try omega)).trans ((congrFun (f72 29 (by decide)) j).trans ((congrFun (f64 29 (by decide)) j).trans ((congrFun (f57 29 (by decide)) j).trans (hor j (by simp at hj ⊢; try omega)))))), fun q => absurd q (by (try dsimp only); omega), fun j h1 h2 hb => G2 j h1 (by (try dsimp only at *); omega) hb, by (try dsimp only); omega, fun _ => e75.trans (by rw [hr2, show p = m 0 0 by omega])⟩ (by (try dsimp only); omega))
                | (refine pe_drop 4 (pe_drop 5 ?_); exact ih (_, _, _, _) ⟨hB, (fun b hb => (f75 b (by simp at hb ⊢; try omega)).trans ((f72 b (by simp at hb ⊢; try omega)).trans ((f64 b (by simp at hb ⊢; try omega)).trans ((f57 b (by simp at hb ⊢; try omega)).trans (hfr b (by simp at hb ⊢; try omega)))))), (fun j hj => (o75 j (by simp at hj ⊢; try omega)).trans ((congrFun (f72 29 (by decide)) j).trans ((congrFun (f64 29 (by decide)) j).trans ((congrFun (f57 29 (by decide)) j).trans (hor j (by simp at hj ⊢; try omega)))))), fun q => ⟨(BGE _ (by (try dsimp only); omega)).mp hz147.2.1, by (try dsimp only); rw [LZ]; first | rw [if_pos (by omega)] | rw [if_neg (by omega)], by (try dsimp only); rw [LZ]; first | rw [if_pos (by omega)] | rw [if_neg (by omega)]⟩, fun j h1 h2 hb => G2 j h1 ((Classical.em (j ≤ p)).elim id (fun e => absurd ((BGE j h1).mpr hb) (hz147.2.2 j (by omega) h2))) hb, by (try dsimp only); omega, fun q => absurd q (by (try dsimp only); omega)⟩ (by (try dsimp only); omega)))
        · skip
          refine pe_iconst d_M_layOut_97 ?_
          refine pe_goto (t := 102) d_M_layOut_98 ?_
          refine pe_istore d_M_layOut_102 ?_
          refine pe_iload d_M_layOut_104 rfl ?_
          refine pe_if_eq (t := 113) d_M_layOut_106 (by first | exact hB _ _ | exact hB0 _ _ | exact hBt _ _ | exact ⟨by omega, by omega⟩) (fun h106 => ?_) (fun h106 => ?_)
          · skip
            refine pe_iload_n d_M_layOut_113 rfl ?_
            refine pe_iload d_M_layOut_114 rfl ?_
            refine pe_iadd d_M_layOut_116 ?_
            refine pe_istore_n d_M_layOut_117 ?_
            refine pe_iload d_M_layOut_118 rfl ?_
            refine pe_if_eq (t := 129) d_M_layOut_120 (by first | exact hB _ _ | exact hB0 _ _ | exact hBt _ _ | exact ⟨by omega, by omega⟩) (fun h120 => ?_) (fun h120 => ?_)
            · skip
              refine pe_iload_n d_M_layOut_129 rfl ?_
              refine pe_istore_n d_M_layOut_130 ?_
              refine pe_iload_n d_M_layOut_131 rfl ?_
              refine pe_aload_n d_M_layOut_132 rfl ?_
              refine pe_geti f_M_87 d_M_layOut_133 rfl rfl 1 rfl ?_
              refine pe_icmp_ne (t := 145) d_M_layOut_136 (by first | exact hB _ _ | exact hB0 _ _ | exact hBt _ _ | exact ⟨by omega, by omega⟩) (by first | exact hB _ _ | exact hB0 _ _ | exact hBt _ _ | exact ⟨by omega, by omega⟩) (fun h136 => ?_) (fun h136 => ?_)
              · skip
                refine pe_aload_n d_M_layOut_145 rfl ?_
                refine pe_iload_n d_M_layOut_146 rfl ?_
                refine pe_v1p d_M_layOut_147 c_M_107 i_M_after s_M_after rfl rfl (t_M_after hB (by omega) (by omega)) (fun z147 hz147 => ?_)
                have LZ : pe_ly (m 8) (m 0 0) (m 7 0) z147.toNat = if pe_cd (m 8) (m 0 0) p = 10 then (r2 + 1, 0) else (r2, c2 + w2) := (pe_ly_j hX.1 hz147.1.1 (fun j a b q => hz147.2.2 j a b ((BGE j (by omega)).mpr q))).trans ((pe_ly_s hX.1 hbp).trans NX)
                refine pe_istore_n d_M_layOut_150 ?_
                refine pe_goto (t := 6) d_M_layOut_151 ?_
                (first
                | (exfalso; omega)
                | (refine pe_drop 4 (pe_drop 5 ?_); exact ih (_, _, _, _) ⟨hB, (fun b hb => (f75 b (by simp at hb ⊢; try omega)).trans ((f72 b (by simp at hb ⊢; try omega)).trans ((f64 b (by simp at hb ⊢; try omega)).trans ((f57 b (by simp at hb ⊢; try omega)).trans (hfr b (by simp at hb ⊢; try omega)))))), (fun j hj => (o75 j (by simp at hj ⊢; try omega)).trans ((congrFun (f72 29 (by decide)) j).trans ((congrFun (f64 29 (by decide)) j).trans ((congrFun (f57 29 (by decide)) j).trans (hor j (by simp at hj ⊢; try omega)))))), fun q => absurd q (by (try dsimp only); omega), fun j h1 h2 hb => G2 j h1 (by (try dsimp only at *); omega) hb, by (try dsimp only); omega, fun _ => e75.trans (by rw [hr2, show p = m 0 0 by omega])⟩ (by (try dsimp only); omega))
                | (refine pe_drop 4 (pe_drop 5 ?_); exact ih (_, _, _, _) ⟨hB, (fun b hb => (f75 b (by simp at hb ⊢; try omega)).trans ((f72 b (by simp at hb ⊢; try omega)).trans ((f64 b (by simp at hb ⊢; try omega)).trans ((f57 b (by simp at hb ⊢; try omega)).trans (hfr b (by simp at hb ⊢; try omega)))))), (fun j hj => (o75 j (by simp at hj ⊢; try omega)).trans ((congrFun (f72 29 (by decide)) j).trans ((congrFun (f64 29 (by decide)) j).trans ((congrFun (f57 29 (by decide)) j).trans (hor j (by simp at hj ⊢; try omega)))))), fun q => ⟨(BGE _ (by (try dsimp only); omega)).mp hz147.2.1, by (try dsimp only); rw [LZ]; first | rw [if_pos (by omega)] | rw [if_neg (by omega)], by (try dsimp only); rw [LZ]; first | rw [if_pos (by omega)] | rw [if_neg (by omega)]⟩, fun j h1 h2 hb => G2 j h1 ((Classical.em (j ≤ p)).elim id (fun e => absurd ((BGE j h1).mpr hb) (hz147.2.2 j (by omega) h2))) hb, by (try dsimp only); omega, fun q => absurd q (by (try dsimp only); omega)⟩ (by (try dsimp only); omega)))
              · skip
                refine pe_iload_n d_M_layOut_139 rfl ?_
                refine pe_iconst d_M_layOut_140 ?_
                refine pe_iadd d_M_layOut_141 ?_
                refine pe_goto (t := 150) d_M_layOut_142 ?_
                refine pe_istore_n d_M_layOut_150 ?_
                refine pe_goto (t := 6) d_M_layOut_151 ?_
                (first
                | (exfalso; omega)
                | (refine pe_drop 4 (pe_drop 5 ?_); exact ih (_, _, _, _) ⟨hB, (fun b hb => (f75 b (by simp at hb ⊢; try omega)).trans ((f72 b (by simp at hb ⊢; try omega)).trans ((f64 b (by simp at hb ⊢; try omega)).trans ((f57 b (by simp at hb ⊢; try omega)).trans (hfr b (by simp at hb ⊢; try omega)))))), (fun j hj => (o75 j (by simp at hj ⊢; try omega)).trans ((congrFun (f72 29 (by decide)) j).trans ((congrFun (f64 29 (by decide)) j).trans ((congrFun (f57 29 (by decide)) j).trans (hor j (by simp at hj ⊢; try omega)))))), fun q => absurd q (by (try dsimp only); omega), fun j h1 h2 hb => G2 j h1 (by (try dsimp only at *); omega) hb, by (try dsimp only); omega, fun _ => e75.trans (by rw [hr2, show p = m 0 0 by omega])⟩ (by (try dsimp only); omega))
                | (refine pe_drop 4 (pe_drop 5 ?_); exact ih (_, _, _, _) ⟨hB, (fun b hb => (f75 b (by simp at hb ⊢; try omega)).trans ((f72 b (by simp at hb ⊢; try omega)).trans ((f64 b (by simp at hb ⊢; try omega)).trans ((f57 b (by simp at hb ⊢; try omega)).trans (hfr b (by simp at hb ⊢; try omega)))))), (fun j hj => (o75 j (by simp at hj ⊢; try omega)).trans ((congrFun (f72 29 (by decide)) j).trans ((congrFun (f64 29 (by decide)) j).trans ((congrFun (f57 29 (by decide)) j).trans (hor j (by simp at hj ⊢; try omega)))))), fun q => ⟨(BGE _ (by (try dsimp only); omega)).mp hz147.2.1, by (try dsimp only); rw [LZ]; first | rw [if_pos (by omega)] | rw [if_neg (by omega)], by (try dsimp only); rw [LZ]; first | rw [if_pos (by omega)] | rw [if_neg (by omega)]⟩, fun j h1 h2 hb => G2 j h1 ((Classical.em (j ≤ p)).elim id (fun e => absurd ((BGE j h1).mpr hb) (hz147.2.2 j (by omega) h2))) hb, by (try dsimp only); omega, fun q => absurd q (by (try dsimp only); omega)⟩ (by (try dsimp only); omega)))
            · skip
              refine pe_iload_n d_M_layOut_123 rfl ?_
              refine pe_iconst d_M_layOut_124 ?_
              refine pe_iadd d_M_layOut_125 ?_
              refine pe_goto (t := 130) d_M_layOut_126 ?_
              refine pe_istore_n d_M_layOut_130 ?_
              refine pe_iload_n d_M_layOut_131 rfl ?_
              refine pe_aload_n d_M_layOut_132 rfl ?_
              refine pe_geti f_M_87 d_M_layOut_133 rfl rfl 1 rfl ?_
              refine pe_icmp_ne (t := 145) d_M_layOut_136 (by first | exact hB _ _ | exact hB0 _ _ | exact hBt _ _ | exact ⟨by omega, by omega⟩) (by first | exact hB _ _ | exact hB0 _ _ | exact hBt _ _ | exact ⟨by omega, by omega⟩) (fun h136 => ?_) (fun h136 => ?_)
              · skip
                refine pe_aload_n d_M_layOut_145 rfl ?_
                refine pe_iload_n d_M_layOut_146 rfl ?_
                refine pe_v1p d_M_layOut_147 c_M_107 i_M_after s_M_after rfl rfl (t_M_after hB (by omega) (by omega)) (fun z147 hz147 => ?_)
                have LZ : pe_ly (m 8) (m 0 0) (m 7 0) z147.toNat = if pe_cd (m 8) (m 0 0) p = 10 then (r2 + 1, 0) else (r2, c2 + w2) := (pe_ly_j hX.1 hz147.1.1 (fun j a b q => hz147.2.2 j a b ((BGE j (by omega)).mpr q))).trans ((pe_ly_s hX.1 hbp).trans NX)
                refine pe_istore_n d_M_layOut_150 ?_
                refine pe_goto (t := 6) d_M_layOut_151 ?_
                (first
                | (exfalso; omega)
                | (refine pe_drop 4 (pe_drop 5 ?_); exact ih (_, _, _, _) ⟨hB, (fun b hb => (f75 b (by simp at hb ⊢; try omega)).trans ((f72 b (by simp at hb ⊢; try omega)).trans ((f64 b (by simp at hb ⊢; try omega)).trans ((f57 b (by simp at hb ⊢; try omega)).trans (hfr b (by simp at hb ⊢; try omega)))))), (fun j hj => (o75 j (by simp at hj ⊢; try omega)).trans ((congrFun (f72 29 (by decide)) j).trans ((congrFun (f64 29 (by decide)) j).trans ((congrFun (f57 29 (by decide)) j).trans (hor j (by simp at hj ⊢; try omega)))))), fun q => absurd q (by (try dsimp only); omega), fun j h1 h2 hb => G2 j h1 (by (try dsimp only at *); omega) hb, by (try dsimp only); omega, fun _ => e75.trans (by rw [hr2, show p = m 0 0 by omega])⟩ (by (try dsimp only); omega))
                | (refine pe_drop 4 (pe_drop 5 ?_); exact ih (_, _, _, _) ⟨hB, (fun b hb => (f75 b (by simp at hb ⊢; try omega)).trans ((f72 b (by simp at hb ⊢; try omega)).trans ((f64 b (by simp at hb ⊢; try omega)).trans ((f57 b (by simp at hb ⊢; try omega)).trans (hfr b (by simp at hb ⊢; try omega)))))), (fun j hj => (o75 j (by simp at hj ⊢; try omega)).trans ((congrFun (f72 29 (by decide)) j).trans ((congrFun (f64 29 (by decide)) j).trans ((congrFun (f57 29 (by decide)) j).trans (hor j (by simp at hj ⊢; try omega)))))), fun q => ⟨(BGE _ (by (try dsimp only); omega)).mp hz147.2.1, by (try dsimp only); rw [LZ]; first | rw [if_pos (by omega)] | rw [if_neg (by omega)], by (try dsimp only); rw [LZ]; first | rw [if_pos (by omega)] | rw [if_neg (by omega)]⟩, fun j h1 h2 hb => G2 j h1 ((Classical.em (j ≤ p)).elim id (fun e => absurd ((BGE j h1).mpr hb) (hz147.2.2 j (by omega) h2))) hb, by (try dsimp only); omega, fun q => absurd q (by (try dsimp only); omega)⟩ (by (try dsimp only); omega)))
              · skip
                refine pe_iload_n d_M_layOut_139 rfl ?_
                refine pe_iconst d_M_layOut_140 ?_
                refine pe_iadd d_M_layOut_141 ?_
                refine pe_goto (t := 150) d_M_layOut_142 ?_
                refine pe_istore_n d_M_layOut_150 ?_
                refine pe_goto (t := 6) d_M_layOut_151 ?_
                (first
                | (exfalso; omega)
                | (refine pe_drop 4 (pe_drop 5 ?_); exact ih (_, _, _, _) ⟨hB, (fun b hb => (f75 b (by simp at hb ⊢; try omega)).trans ((f72 b (by simp at hb ⊢; try omega)).trans ((f64 b (by simp at hb ⊢; try omega)).trans ((f57 b (by simp at hb ⊢; try omega)).trans (hfr b (by simp at hb ⊢; try omega)))))), (fun j hj => (o75 j (by simp at hj ⊢; try omega)).trans ((congrFun (f72 29 (by decide)) j).trans ((congrFun (f64 29 (by decide)) j).trans ((congrFun (f57 29 (by decide)) j).trans (hor j (by simp at hj ⊢; try omega)))))), fun q => absurd q (by (try dsimp only); omega), fun j h1 h2 hb => G2 j h1 (by (try dsimp only at *); omega) hb, by (try dsimp only); omega, fun _ => e75.trans (by rw [hr2, show p = m 0 0 by omega])⟩ (by (try dsimp only); omega))
                | (refine pe_drop 4 (pe_drop 5 ?_); exact ih (_, _, _, _) ⟨hB, (fun b hb => (f75 b (by simp at hb ⊢; try omega)).trans ((f72 b (by simp at hb ⊢; try omega)).trans ((f64 b (by simp at hb ⊢; try omega)).trans ((f57 b (by simp at hb ⊢; try omega)).trans (hfr b (by simp at hb ⊢; try omega)))))), (fun j hj => (o75 j (by simp at hj ⊢; try omega)).trans ((congrFun (f72 29 (by decide)) j).trans ((congrFun (f64 29 (by decide)) j).trans ((congrFun (f57 29 (by decide)) j).trans (hor j (by simp at hj ⊢; try omega)))))), fun q => ⟨(BGE _ (by (try dsimp only); omega)).mp hz147.2.1, by (try dsimp only); rw [LZ]; first | rw [if_pos (by omega)] | rw [if_neg (by omega)], by (try dsimp only); rw [LZ]; first | rw [if_pos (by omega)] | rw [if_neg (by omega)]⟩, fun j h1 h2 hb => G2 j h1 ((Classical.em (j ≤ p)).elim id (fun e => absurd ((BGE j h1).mpr hb) (hz147.2.2 j (by omega) h2))) hb, by (try dsimp only); omega, fun q => absurd q (by (try dsimp only); omega)⟩ (by (try dsimp only); omega)))
          · skip
            refine pe_iconst d_M_layOut_109 ?_
            refine pe_goto (t := 117) d_M_layOut_110 ?_
            refine pe_istore_n d_M_layOut_117 ?_
            refine pe_iload d_M_layOut_118 rfl ?_
            refine pe_if_eq (t := 129) d_M_layOut_120 (by first | exact hB _ _ | exact hB0 _ _ | exact hBt _ _ | exact ⟨by omega, by omega⟩) (fun h120 => ?_) (fun h120 => ?_)
            · skip
              refine pe_iload_n d_M_layOut_129 rfl ?_
              refine pe_istore_n d_M_layOut_130 ?_
              refine pe_iload_n d_M_layOut_131 rfl ?_
              refine pe_aload_n d_M_layOut_132 rfl ?_
              refine pe_geti f_M_87 d_M_layOut_133 rfl rfl 1 rfl ?_
              refine pe_icmp_ne (t := 145) d_M_layOut_136 (by first | exact hB _ _ | exact hB0 _ _ | exact hBt _ _ | exact ⟨by omega, by omega⟩) (by first | exact hB _ _ | exact hB0 _ _ | exact hBt _ _ | exact ⟨by omega, by omega⟩) (fun h136 => ?_) (fun h136 => ?_)
              · skip
                refine pe_aload_n d_M_layOut_145 rfl ?_
                refine pe_iload_n d_M_layOut_146 rfl ?_
                refine pe_v1p d_M_layOut_147 c_M_107 i_M_after s_M_after rfl rfl (t_M_after hB (by omega) (by omega)) (fun z147 hz147 => ?_)
                have LZ : pe_ly (m 8) (m 0 0) (m 7 0) z147.toNat = if pe_cd (m 8) (m 0 0) p = 10 then (r2 + 1, 0) else (r2, c2 + w2) := (pe_ly_j hX.1 hz147.1.1 (fun j a b q => hz147.2.2 j a b ((BGE j (by omega)).mpr q))).trans ((pe_ly_s hX.1 hbp).trans NX)
                refine pe_istore_n d_M_layOut_150 ?_
                refine pe_goto (t := 6) d_M_layOut_151 ?_
                (first
                | (exfalso; omega)
                | (refine pe_drop 4 (pe_drop 5 ?_); exact ih (_, _, _, _) ⟨hB, (fun b hb => (f75 b (by simp at hb ⊢; try omega)).trans ((f72 b (by simp at hb ⊢; try omega)).trans ((f64 b (by simp at hb ⊢; try omega)).trans ((f57 b (by simp at hb ⊢; try omega)).trans (hfr b (by simp at hb ⊢; try omega)))))), (fun j hj => (o75 j (by simp at hj ⊢; try omega)).trans ((congrFun (f72 29 (by decide)) j).trans ((congrFun (f64 29 (by decide)) j).trans ((congrFun (f57 29 (by decide)) j).trans (hor j (by simp at hj ⊢; try omega)))))), fun q => absurd q (by (try dsimp only); omega), fun j h1 h2 hb => G2 j h1 (by (try dsimp only at *); omega) hb, by (try dsimp only); omega, fun _ => e75.trans (by rw [hr2, show p = m 0 0 by omega])⟩ (by (try dsimp only); omega))
                | (refine pe_drop 4 (pe_drop 5 ?_); exact ih (_, _, _, _) ⟨hB, (fun b hb => (f75 b (by simp at hb ⊢; try omega)).trans ((f72 b (by simp at hb ⊢; try omega)).trans ((f64 b (by simp at hb ⊢; try omega)).trans ((f57 b (by simp at hb ⊢; try omega)).trans (hfr b (by simp at hb ⊢; try omega)))))), (fun j hj => (o75 j (by simp at hj ⊢; try omega)).trans ((congrFun (f72 29 (by decide)) j).trans ((congrFun (f64 29 (by decide)) j).trans ((congrFun (f57 29 (by decide)) j).trans (hor j (by simp at hj ⊢; try omega)))))), fun q => ⟨(BGE _ (by (try dsimp only); omega)).mp hz147.2.1, by (try dsimp only); rw [LZ]; first | rw [if_pos (by omega)] | rw [if_neg (by omega)], by (try dsimp only); rw [LZ]; first | rw [if_pos (by omega)] | rw [if_neg (by omega)]⟩, fun j h1 h2 hb => G2 j h1 ((Classical.em (j ≤ p)).elim id (fun e => absurd ((BGE j h1).mpr hb) (hz147.2.2 j (by omega) h2))) hb, by (try dsimp only); omega, fun q => absurd q (by (try dsimp only); omega)⟩ (by (try dsimp only); omega)))
              · skip
                refine pe_iload_n d_M_layOut_139 rfl ?_
                refine pe_iconst d_M_layOut_140 ?_
                refine pe_iadd d_M_layOut_141 ?_
                refine pe_goto (t := 150) d_M_layOut_142 ?_
                refine pe_istore_n d_M_layOut_150 ?_
                refine pe_goto (t := 6) d_M_layOut_151 ?_
                (first
                | (exfalso; omega)
                | (refine pe_drop 4 (pe_drop 5 ?_); exact ih (_, _, _, _) ⟨hB, (fun b hb => (f75 b (by simp at hb ⊢; try omega)).trans ((f72 b (by simp at hb ⊢; try omega)).trans ((f64 b (by simp at hb ⊢; try omega)).trans ((f57 b (by simp at hb ⊢; try omega)).trans (hfr b (by simp at hb ⊢; try omega)))))), (fun j hj => (o75 j (by simp at hj ⊢; try omega)).trans ((congrFun (f72 29 (by decide)) j).trans ((congrFun (f64 29 (by decide)) j).trans ((congrFun (f57 29 (by decide)) j).trans (hor j (by simp at hj ⊢; try omega)))))), fun q => absurd q (by (try dsimp only); omega), fun j h1 h2 hb => G2 j h1 (by (try dsimp only at *); omega) hb, by (try dsimp only); omega, fun _ => e75.trans (by rw [hr2, show p = m 0 0 by omega])⟩ (by (try dsimp only); omega))
                | (refine pe_drop 4 (pe_drop 5 ?_); exact ih (_, _, _, _) ⟨hB, (fun b hb => (f75 b (by simp at hb ⊢; try omega)).trans ((f72 b (by simp at hb ⊢; try omega)).trans ((f64 b (by simp at hb ⊢; try omega)).trans ((f57 b (by simp at hb ⊢; try omega)).trans (hfr b (by simp at hb ⊢; try omega)))))), (fun j hj => (o75 j (by simp at hj ⊢; try omega)).trans ((congrFun (f72 29 (by decide)) j).trans ((congrFun (f64 29 (by decide)) j).trans ((congrFun (f57 29 (by decide)) j).trans (hor j (by simp at hj ⊢; try omega)))))), fun q => ⟨(BGE _ (by (try dsimp only); omega)).mp hz147.2.1, by (try dsimp only); rw [LZ]; first | rw [if_pos (by omega)] | rw [if_neg (by omega)], by (try dsimp only); rw [LZ]; first | rw [if_pos (by omega)] | rw [if_neg (by omega)]⟩, fun j h1 h2 hb => G2 j h1 ((Classical.em (j ≤ p)).elim id (fun e => absurd ((BGE j h1).mpr hb) (hz147.2.2 j (by omega) h2))) hb, by (try dsimp only); omega, fun q => absurd q (by (try dsimp only); omega)⟩ (by (try dsimp only); omega)))
            · skip
              refine pe_iload_n d_M_layOut_123 rfl ?_
              refine pe_iconst d_M_layOut_124 ?_
              refine pe_iadd d_M_layOut_125 ?_
              refine pe_goto (t := 130) d_M_layOut_126 ?_
              refine pe_istore_n d_M_layOut_130 ?_
              refine pe_iload_n d_M_layOut_131 rfl ?_
              refine pe_aload_n d_M_layOut_132 rfl ?_
              refine pe_geti f_M_87 d_M_layOut_133 rfl rfl 1 rfl ?_
              refine pe_icmp_ne (t := 145) d_M_layOut_136 (by first | exact hB _ _ | exact hB0 _ _ | exact hBt _ _ | exact ⟨by omega, by omega⟩) (by first | exact hB _ _ | exact hB0 _ _ | exact hBt _ _ | exact ⟨by omega, by omega⟩) (fun h136 => ?_) (fun h136 => ?_)
              · skip
                refine pe_aload_n d_M_layOut_145 rfl ?_
                refine pe_iload_n d_M_layOut_146 rfl ?_
                refine pe_v1p d_M_layOut_147 c_M_107 i_M_after s_M_after rfl rfl (t_M_after hB (by omega) (by omega)) (fun z147 hz147 => ?_)
                have LZ : pe_ly (m 8) (m 0 0) (m 7 0) z147.toNat = if pe_cd (m 8) (m 0 0) p = 10 then (r2 + 1, 0) else (r2, c2 + w2) := (pe_ly_j hX.1 hz147.1.1 (fun j a b q => hz147.2.2 j a b ((BGE j (by omega)).mpr q))).trans ((pe_ly_s hX.1 hbp).trans NX)
                refine pe_istore_n d_M_layOut_150 ?_
                refine pe_goto (t := 6) d_M_layOut_151 ?_
                (first
                | (exfalso; omega)
                | (refine pe_drop 4 (pe_drop 5 ?_); exact ih (_, _, _, _) ⟨hB, (fun b hb => (f75 b (by simp at hb ⊢; try omega)).trans ((f72 b (by simp at hb ⊢; try omega)).trans ((f64 b (by simp at hb ⊢; try omega)).trans ((f57 b (by simp at hb ⊢; try omega)).trans (hfr b (by simp at hb ⊢; try omega)))))), (fun j hj => (o75 j (by simp at hj ⊢; try omega)).trans ((congrFun (f72 29 (by decide)) j).trans ((congrFun (f64 29 (by decide)) j).trans ((congrFun (f57 29 (by decide)) j).trans (hor j (by simp at hj ⊢; try omega)))))), fun q => absurd q (by (try dsimp only); omega), fun j h1 h2 hb => G2 j h1 (by (try dsimp only at *); omega) hb, by (try dsimp only); omega, fun _ => e75.trans (by rw [hr2, show p = m 0 0 by omega])⟩ (by (try dsimp only); omega))
                | (refine pe_drop 4 (pe_drop 5 ?_); exact ih (_, _, _, _) ⟨hB, (fun b hb => (f75 b (by simp at hb ⊢; try omega)).trans ((f72 b (by simp at hb ⊢; try omega)).trans ((f64 b (by simp at hb ⊢; try omega)).trans ((f57 b (by simp at hb ⊢; try omega)).trans (hfr b (by simp at hb ⊢; try omega)))))), (fun j hj => (o75 j (by simp at hj ⊢; try omega)).trans ((congrFun (f72 29 (by decide)) j).trans ((congrFun (f64 29 (by decide)) j).trans ((congrFun (f57 29 (by decide)) j).trans (hor j (by simp at hj ⊢; try omega)))))), fun q => ⟨(BGE _ (by (try dsimp only); omega)).mp hz147.2.1, by (try dsimp only); rw [LZ]; first | rw [if_pos (by omega)] | rw [if_neg (by omega)], by (try dsimp only); rw [LZ]; first | rw [if_pos (by omega)] | rw [if_neg (by omega)]⟩, fun j h1 h2 hb => G2 j h1 ((Classical.em (j ≤ p)).elim id (fun e => absurd ((BGE j h1).mpr hb) (hz147.2.2 j (by omega) h2))) hb, by (try dsimp only); omega, fun q => absurd q (by (try dsimp only); omega)⟩ (by (try dsimp only); omega)))
              · skip
                refine pe_iload_n d_M_layOut_139 rfl ?_
                refine pe_iconst d_M_layOut_140 ?_
                refine pe_iadd d_M_layOut_141 ?_
                refine pe_goto (t := 150) d_M_layOut_142 ?_
                refine pe_istore_n d_M_layOut_150 ?_
                refine pe_goto (t := 6) d_M_layOut_151 ?_
                (first
                | (exfalso; omega)
                | (refine pe_drop 4 (pe_drop 5 ?_); exact ih (_, _, _, _) ⟨hB, (fun b hb => (f75 b (by simp at hb ⊢; try omega)).trans ((f72 b (by simp at hb ⊢; try omega)).trans ((f64 b (by simp at hb ⊢; try omega)).trans ((f57 b (by simp at hb ⊢; try omega)).trans (hfr b (by simp at hb ⊢; try omega)))))), (fun j hj => (o75 j (by simp at hj ⊢; try omega)).trans ((congrFun (f72 29 (by decide)) j).trans ((congrFun (f64 29 (by decide)) j).trans ((congrFun (f57 29 (by decide)) j).trans (hor j (by simp at hj ⊢; try omega)))))), fun q => absurd q (by (try dsimp only); omega), fun j h1 h2 hb => G2 j h1 (by (try dsimp only at *); omega) hb, by (try dsimp only); omega, fun _ => e75.trans (by rw [hr2, show p = m 0 0 by omega])⟩ (by (try dsimp only); omega))
                | (refine pe_drop 4 (pe_drop 5 ?_); exact ih (_, _, _, _) ⟨hB, (fun b hb => (f75 b (by simp at hb ⊢; try omega)).trans ((f72 b (by simp at hb ⊢; try omega)).trans ((f64 b (by simp at hb ⊢; try omega)).trans ((f57 b (by simp at hb ⊢; try omega)).trans (hfr b (by simp at hb ⊢; try omega)))))), (fun j hj => (o75 j (by simp at hj ⊢; try omega)).trans ((congrFun (f72 29 (by decide)) j).trans ((congrFun (f64 29 (by decide)) j).trans ((congrFun (f57 29 (by decide)) j).trans (hor j (by simp at hj ⊢; try omega)))))), fun q => ⟨(BGE _ (by (try dsimp only); omega)).mp hz147.2.1, by (try dsimp only); rw [LZ]; first | rw [if_pos (by omega)] | rw [if_neg (by omega)], by (try dsimp only); rw [LZ]; first | rw [if_pos (by omega)] | rw [if_neg (by omega)]⟩, fun j h1 h2 hb => G2 j h1 ((Classical.em (j ≤ p)).elim id (fun e => absurd ((BGE j h1).mpr hb) (hz147.2.2 j (by omega) h2))) hb, by (try dsimp only); omega, fun q => absurd q (by (try dsimp only); omega)⟩ (by (try dsimp only); omega)))
    refine pe_iload_n d_M_layOut_6 rfl ?_
    refine pe_aload_n d_M_layOut_7 rfl ?_
    refine pe_geti f_M_87 d_M_layOut_8 rfl rfl 1 rfl ?_
    refine pe_icmp_gt (t := 154) d_M_layOut_11 (by first | exact hB _ _ | exact hB0 _ _ | exact hBt _ _ | exact ⟨by omega, by omega⟩) (by first | exact hB _ _ | exact hB0 _ _ | exact hBt _ _ | exact ⟨by omega, by omega⟩) (fun h11 => ?_) (fun h11 => ?_)
    · skip
      refine pe_rv d_M_layOut_154 ?_
      have e : p = m 0 0 + 1 := by omega
      exact ⟨hB, (fun b hb => hfr b (by simp at hb ⊢; try omega)), (fun j hj => hor j (by simp at hj ⊢; try omega)), fun j h1 h2 hb => hG j h1 (by omega) hb, hL e⟩
    · skip
      obtain ⟨hbp, hr, hcc⟩ := hP (by omega)
      have hs := pe_ly_b (m 8) (m 0 0) (m 7 0) hc p.toNat
      have hn := pe_ly_nn (m 8) (m 0 0) (m 7 0) p.toNat
      rw [← hcc, ← hr] at hs
      rw [← hr] at hn
      have hS : pe_ly (m 8) (m 0 0) (m 7 0) p.toNat = (r, c) := Prod.ext hr.symm hcc.symm
      refine pe_aload_n d_M_layOut_14 rfl ?_
      refine pe_iload_n d_M_layOut_15 rfl ?_
      refine pe_iload_n d_M_layOut_16 rfl ?_
      refine pe_v2p d_M_layOut_17 c_M_100 i_M_widthOf s_M_widthOf rfl rfl (x_M_widthOf hB hAt (by omega) (by omega) (by omega)) (fun z17 hz17 => ?_)
      have hb17 := pe_wz_b hz17 (by omega)
      refine pe_istore d_M_layOut_20 ?_
      refine pe_iload d_M_layOut_22 rfl ?_
      refine pe_if_eq (t := 38) d_M_layOut_24 (by first | exact hB _ _ | exact hB0 _ _ | exact hBt _ _ | exact ⟨by omega, by omega⟩) (fun h24 => ?_) (fun h24 => ?_)
      · skip
        refine pe_iinc d_M_layOut_38 rfl ?_
        refine pe_iconst d_M_layOut_41 ?_
        refine pe_istore_n d_M_layOut_42 ?_
        refine pe_aload_n d_M_layOut_43 rfl ?_
        refine pe_iload_n d_M_layOut_44 rfl ?_
        refine pe_iconst d_M_layOut_45 ?_
        refine pe_v2p d_M_layOut_46 c_M_100 i_M_widthOf s_M_widthOf rfl rfl (x_M_widthOf hB hAt (by omega) (by omega) (by omega)) (fun z46 hz46 => ?_)
        refine pe_istore d_M_layOut_49 ?_
        first
        | (have e : pe_rw (m 8) (m 0 0) (m 7 0) p = (r + 1, 0) := by
             unfold pe_rw; rw [hS]; exact pe_at_A hz17 (by omega) (by omega)
           exact J51 (_, _, _) ⟨by omega, by (try dsimp only); rw [e]; exact ⟨rfl, rfl⟩, hz46⟩)
        | (have e : pe_rw (m 8) (m 0 0) (m 7 0) p = (r, c) := by
             unfold pe_rw; rw [hS]; exact pe_at_B hz17 (by omega) (by omega)
           exact J51 (_, _, _) ⟨by omega, by (try dsimp only); rw [e]; exact ⟨rfl, rfl⟩, hz17⟩)
      · skip
        refine pe_iload_n d_M_layOut_27 rfl ?_
        refine pe_iload d_M_layOut_28 rfl ?_
        refine pe_iadd d_M_layOut_30 ?_
        refine pe_aload_n d_M_layOut_31 rfl ?_
        refine pe_geti f_M_78 d_M_layOut_32 rfl rfl 21 rfl ?_
        refine pe_icmp_le (t := 51) d_M_layOut_35 (by first | exact hB _ _ | exact hB0 _ _ | exact hBt _ _ | exact ⟨by omega, by omega⟩) (by first | exact hB _ _ | exact hB0 _ _ | exact hBt _ _ | exact ⟨by omega, by omega⟩) (fun h35 => ?_) (fun h35 => ?_)
        · skip
          first
          | (have e : pe_rw (m 8) (m 0 0) (m 7 0) p = (r + 1, 0) := by
               unfold pe_rw; rw [hS]; exact pe_at_A hz17 (by omega) (by omega)
             exact J51 (_, _, _) ⟨by omega, by (try dsimp only); rw [e]; exact ⟨rfl, rfl⟩, hz46⟩)
          | (have e : pe_rw (m 8) (m 0 0) (m 7 0) p = (r, c) := by
               unfold pe_rw; rw [hS]; exact pe_at_B hz17 (by omega) (by omega)
             exact J51 (_, _, _) ⟨by omega, by (try dsimp only); rw [e]; exact ⟨rfl, rfl⟩, hz17⟩)
        · skip
          refine pe_iinc d_M_layOut_38 rfl ?_
          refine pe_iconst d_M_layOut_41 ?_
          refine pe_istore_n d_M_layOut_42 ?_
          refine pe_aload_n d_M_layOut_43 rfl ?_
          refine pe_iload_n d_M_layOut_44 rfl ?_
          refine pe_iconst d_M_layOut_45 ?_
          refine pe_v2p d_M_layOut_46 c_M_100 i_M_widthOf s_M_widthOf rfl rfl (x_M_widthOf hB hAt (by omega) (by omega) (by omega)) (fun z46 hz46 => ?_)
          refine pe_istore d_M_layOut_49 ?_
          first
          | (have e : pe_rw (m 8) (m 0 0) (m 7 0) p = (r + 1, 0) := by
               unfold pe_rw; rw [hS]; exact pe_at_A hz17 (by omega) (by omega)
             exact J51 (_, _, _) ⟨by omega, by (try dsimp only); rw [e]; exact ⟨rfl, rfl⟩, hz46⟩)
          | (have e : pe_rw (m 8) (m 0 0) (m 7 0) p = (r, c) := by
               unfold pe_rw; rw [hS]; exact pe_at_B hz17 (by omega) (by omega)
             exact J51 (_, _, _) ⟨by omega, by (try dsimp only); rw [e]; exact ⟨rfl, rfl⟩, hz17⟩)
  refine pe_iconst d_M_layOut_0 ?_
  refine pe_istore_n d_M_layOut_1 ?_
  refine pe_iconst d_M_layOut_2 ?_
  refine pe_istore_n d_M_layOut_3 ?_
  refine pe_iconst d_M_layOut_4 ?_
  refine pe_istore_n d_M_layOut_5 ?_
  exact J6 (_, _, _, _) ⟨hB, (fun b hb => rfl), (fun j hj => rfl), fun _ => ⟨pe_bg0 _ _, rfl, rfl⟩, fun j h1 h2 => absurd h2 (by (try dsimp only); omega), by (try dsimp only); omega, fun q => absurd q (by (try dsimp only); omega)⟩
theorem x_M_upOrDown {m σ : pe_H} {b : Int} (hB : pe_B σ) (hA : pe_ra m σ) (hw : pe_wf m) (hk : m 5 0 ≤ 11) (hg : pe_bg (m 8) (m 0 0) (m 1 0)) (hb : -1 ≤ b ∧ b ≤ 1) : pe_M m_M_upOrDown [pe_r 29, pe_i b] σ (pe_qv (fun σ' => pe_B σ' ∧ (∀ b, b ∉ [29, 37, 38, 39] → σ' b = σ b) ∧ (∀ j, j ∉ ([2, 6, 26] : List Int) → σ' 29 j = σ 29 j) ∧ pe_ra (pe_eMv m b) σ')) := by
  refine pe_in0 (lv := [some (pe_r 29), some (pe_i b), none, none, none, none]) ?_
  have hB0 := hB
  obtain ⟨⟨⟨a1, a2, a3, a4, a5⟩, a7, a8, a9⟩, A2, A3, A4⟩ := id hA
  obtain ⟨⟨w1, w2, w3, w4, w5, w6, w7, w8⟩, W2, W3⟩ := id hw
  have J63 : ∀ x : Int × Int × Int × pe_H, (pe_B x.2.2.2 ∧ (∀ b, b ∉ [29, 37, 38, 39] → x.2.2.2 b = σ b) ∧ (∀ j, j ∉ ([6, 26] : List Int) → x.2.2.2 29 j = σ 29 j) ∧ (x.2.2.2 29 6 = pe_gl m ∧ 4 ≤ m 7 0) ∧ (∀ j, 0 ≤ j → j ≤ m 0 0 → pe_bg (m 8) (m 0 0) j → x.2.2.2 37 j = (pe_rw (m 8) (m 0 0) (m 7 0) j).1 ∧ x.2.2.2 38 j = (pe_rw (m 8) (m 0 0) (m 7 0) j).2) ∧ (x.1 = (pe_rw (m 8) (m 0 0) (m 7 0) (m 1 0)).1 + b ∧ 0 ≤ x.1 ∧ x.1 ≤ (pe_rw (m 8) (m 0 0) (m 7 0) (m 0 0)).1) ∧ x.2.1 = pe_fd (m 8) (m 0 0) (m 7 0) x.1 (pe_gl m) x.2.2.1.toNat ∧ (0 ≤ x.2.2.1 ∧ x.2.2.1 ≤ m 0 0 + 1)) → pe_G m_M_upOrDown 63 [some (pe_r 29), some (pe_i b), some (pe_i x.1), some (pe_i x.2.1), some (pe_i x.2.2.1), none] [] x.2.2.2 (pe_qv (fun σ' => pe_B σ' ∧ (∀ b, b ∉ [29, 37, 38, 39] → σ' b = σ b) ∧ (∀ j, j ∉ ([2, 6, 26] : List Int) → σ' 29 j = σ 29 j) ∧ pe_ra (pe_eMv m b) σ')) := by
    refine pe_loop (fun x : Int × Int × Int × pe_H => (300 - x.2.2.1).toNat) _ _ ?_
    intro x hI ih
    obtain ⟨o, q, p, τ⟩ := x
    dsimp only at hI ⊢
    obtain ⟨hB, hfr, hX⟩ := hI
    obtain ⟨hor, hG, hY, hO, hq, hX⟩ := hX
    have v1 : τ 29 1 = σ 29 1 := hor 1 (by decide)
    have v2 : τ 29 2 = σ 29 2 := hor 2 (by decide)
    have v3 : τ 29 3 = σ 29 3 := hor 3 (by decide)
    have v5 : τ 29 5 = σ 29 5 := hor 5 (by decide)
    have v7 : τ 29 7 = σ 29 7 := hor 7 (by decide)
    have v19 : τ 29 19 = σ 29 19 := hor 19 (by decide)
    have v21 : τ 29 21 = σ 29 21 := hor 21 (by decide)
    have hf := pe_fd_get (m 8) (m 0 0) (m 7 0) o (pe_gl m) p.toNat
    rw [← hq] at hf
    have rn := pe_rw_b (m 8) (m 0 0) (m 7 0) (m 0 0) hG.2 w1.1
    have hBt := hB
    refine pe_iload d_M_upOrDown_63 rfl ?_
    refine pe_aload_n d_M_upOrDown_65 rfl ?_
    refine pe_geti f_M_87 d_M_upOrDown_66 rfl rfl 1 rfl ?_
    refine pe_icmp_gt (t := 131) d_M_upOrDown_69 (by first | exact hB _ _ | exact hB0 _ _ | exact hBt _ _ | exact ⟨by omega, by omega⟩) (by first | exact hB _ _ | exact hB0 _ _ | exact hBt _ _ | exact ⟨by omega, by omega⟩) (fun h69 => ?_) (fun h69 => ?_)
    · skip
      refine pe_aload_n d_M_upOrDown_131 rfl ?_
      refine pe_iload_n d_M_upOrDown_132 rfl ?_
      refine pe_putiT f_M_117 g_11_2 d_M_upOrDown_133 rfl rfl 2 rfl hB (by first | exact hB _ _ | exact hB0 _ _ | exact hBt _ _ | exact ⟨by omega, by omega⟩) (fun σ133 hB e133 o133 f133 => ?_)
      try have u133_0 : σ133 29 1 = τ 29 1 := by first | exact o133 1 (by decide) | exact congrFun (f133 29 (by decide)) 1
      try have u133_1 : σ133 29 2 = τ 29 2 := by first | exact o133 2 (by decide) | exact congrFun (f133 29 (by decide)) 2
      try have u133_2 : σ133 29 3 = τ 29 3 := by first | exact o133 3 (by decide) | exact congrFun (f133 29 (by decide)) 3
      try have u133_3 : σ133 29 5 = τ 29 5 := by first | exact o133 5 (by decide) | exact congrFun (f133 29 (by decide)) 5
      try have u133_4 : σ133 29 6 = τ 29 6 := by first | exact o133 6 (by decide) | exact congrFun (f133 29 (by decide)) 6
      try have u133_5 : σ133 29 7 = τ 29 7 := by first | exact o133 7 (by decide) | exact congrFun (f133 29 (by decide)) 7
      try have u133_6 : σ133 29 19 = τ 29 19 := by first | exact o133 19 (by decide) | exact congrFun (f133 29 (by decide)) 19
      try have u133_7 : σ133 29 21 = τ 29 21 := by first | exact o133 21 (by decide) | exact congrFun (f133 29 (by decide)) 21
      try have u133_8 : σ133 29 26 = τ 29 26 := by first | exact o133 26 (by decide) | exact congrFun (f133 29 (by decide)) 26
      refine pe_rv d_M_upOrDown_136 ?_
      have e : p = m 0 0 + 1 := by omega
      have F0 : ∀ b, b ∉ [29, 37, 38, 39] → σ133 b = σ b := (fun b hb => (f133 b (by simp at hb ⊢; try omega)).trans (hfr b (by simp at hb ⊢; try omega)))
      have O0 : ∀ j, j ∉ ([2, 6, 26] : List Int) → σ133 29 j = σ 29 j := (fun j hj => (o133 j (by simp at hj ⊢; try omega)).trans (hor j (by simp at hj ⊢; try omega)))
      exact ⟨hB, F0, O0, by
        unfold pe_eMv; rw [if_neg (by omega), if_neg (pe_mf_1 (by omega) w1.1 (by omega))]
        exact pe_ra_gc hA (fun b hb => F0 b (by simp at hb ⊢; omega)) (fun j hj => O0 j (by simp at hj ⊢; omega)) (by omega) (e133.trans (by rw [hq, e, hO.1]; rfl))⟩
    · skip
      refine pe_aload_n d_M_upOrDown_72 rfl ?_
      refine pe_iload d_M_upOrDown_73 rfl ?_
      refine pe_v1p d_M_upOrDown_75 c_M_94 i_M_begins s_M_begins rfl rfl (t_M_begins hB (by omega) (by omega)) (fun z75 hz75 => ?_)
      have bgp : z75 = 1 ↔ pe_bg (m 8) (m 0 0) p := by rw [hz75.2, hfr 30 (by decide), show τ 29 1 = m 0 0 by omega]; exact pe_bg_eq A2 hX.1
      refine pe_if_eq (t := 96) d_M_upOrDown_78 (by first | exact hB _ _ | exact hB0 _ _ | exact hBt _ _ | exact ⟨by omega, by omega⟩) (fun h78 => ?_) (fun h78 => ?_)
      · skip
        refine pe_iconst d_M_upOrDown_96 ?_
        refine pe_istore d_M_upOrDown_97 ?_
        refine pe_iload d_M_upOrDown_99 rfl ?_
        refine pe_if_eq (t := 125) d_M_upOrDown_101 (by first | exact hB _ _ | exact hB0 _ _ | exact hBt _ _ | exact ⟨by omega, by omega⟩) (fun h101 => ?_) (fun h101 => ?_)
        · skip
          refine pe_iinc d_M_upOrDown_125 rfl ?_
          refine pe_goto (t := 63) d_M_upOrDown_128 ?_
          (first
          | (exfalso; omega)
          | (have B1 := bgp.mp (by omega); have Y1 := hY p hX.1 (by omega) B1; have E1 : pe_fd (m 8) (m 0 0) (m 7 0) o (pe_gl m) (p + 1).toNat = p := pe_fd_y hX.1 ⟨B1, (show (pe_rw (m 8) (m 0 0) (m 7 0) p).1 = o by omega), (show pe_fd (m 8) (m 0 0) (m 7 0) o (pe_gl m) p.toNat = -1 ∨ (pe_rw (m 8) (m 0 0) (m 7 0) p).2 ≤ pe_gl m by omega)⟩; refine pe_drop 5 ?_; exact ih (_, _, _, _) ⟨hB, hfr, hor, hG, hY, hO, E1.symm, by (try dsimp only); omega⟩ (by (try dsimp only); omega))
          | (have E2 : pe_fd (m 8) (m 0 0) (m 7 0) o (pe_gl m) (p + 1).toNat = pe_fd (m 8) (m 0 0) (m 7 0) o (pe_gl m) p.toNat := pe_fd_n hX.1 (fun w => by (have Y1 := hY p hX.1 (by omega) w.1); (have B1 := bgp.mpr w.1); (have W1 := w.2); omega); refine pe_drop 5 ?_; exact ih (_, _, _, _) ⟨hB, hfr, hor, hG, hY, hO, hq.trans E2.symm, by (try dsimp only); omega⟩ (by (try dsimp only); omega)))
        · skip
          refine pe_iload_n d_M_upOrDown_104 rfl ?_
          refine pe_if_lt (t := 122) d_M_upOrDown_105 (by first | exact hB _ _ | exact hB0 _ _ | exact hBt _ _ | exact ⟨by omega, by omega⟩) (fun h105 => ?_) (fun h105 => ?_)
          · skip
            refine pe_iload d_M_upOrDown_122 rfl ?_
            refine pe_istore_n d_M_upOrDown_124 ?_
            refine pe_iinc d_M_upOrDown_125 rfl ?_
            refine pe_goto (t := 63) d_M_upOrDown_128 ?_
            (first
            | (exfalso; omega)
            | (have B1 := bgp.mp (by omega); have Y1 := hY p hX.1 (by omega) B1; have E1 : pe_fd (m 8) (m 0 0) (m 7 0) o (pe_gl m) (p + 1).toNat = p := pe_fd_y hX.1 ⟨B1, (show (pe_rw (m 8) (m 0 0) (m 7 0) p).1 = o by omega), (show pe_fd (m 8) (m 0 0) (m 7 0) o (pe_gl m) p.toNat = -1 ∨ (pe_rw (m 8) (m 0 0) (m 7 0) p).2 ≤ pe_gl m by omega)⟩; refine pe_drop 5 ?_; exact ih (_, _, _, _) ⟨hB, hfr, hor, hG, hY, hO, E1.symm, by (try dsimp only); omega⟩ (by (try dsimp only); omega))
            | (have E2 : pe_fd (m 8) (m 0 0) (m 7 0) o (pe_gl m) (p + 1).toNat = pe_fd (m 8) (m 0 0) (m 7 0) o (pe_gl m) p.toNat := pe_fd_n hX.1 (fun w => by (have Y1 := hY p hX.1 (by omega) w.1); (have B1 := bgp.mpr w.1); (have W1 := w.2); omega); refine pe_drop 5 ?_; exact ih (_, _, _, _) ⟨hB, hfr, hor, hG, hY, hO, hq.trans E2.symm, by (try dsimp only); omega⟩ (by (try dsimp only); omega)))
          · skip
            refine pe_aload_n d_M_upOrDown_108 rfl ?_
            refine pe_getr f_M_44 d_M_upOrDown_109 rfl rfl ?_
            refine pe_iload d_M_upOrDown_112 rfl ?_
            refine pe_iald d_M_upOrDown_114 rfl (by omega) (by omega) ?_
            refine pe_aload_n d_M_upOrDown_115 rfl ?_
            refine pe_geti f_M_20 d_M_upOrDown_116 rfl rfl 6 rfl ?_
            refine pe_icmp_gt (t := 125) d_M_upOrDown_119 (by first | exact hB _ _ | exact hB0 _ _ | exact hBt _ _ | exact ⟨by omega, by omega⟩) (by first | exact hB _ _ | exact hB0 _ _ | exact hBt _ _ | exact ⟨by omega, by omega⟩) (fun h119 => ?_) (fun h119 => ?_)
            · skip
              refine pe_iinc d_M_upOrDown_125 rfl ?_
              refine pe_goto (t := 63) d_M_upOrDown_128 ?_
              (first
              | (exfalso; omega)
              | (have B1 := bgp.mp (by omega); have Y1 := hY p hX.1 (by omega) B1; have E1 : pe_fd (m 8) (m 0 0) (m 7 0) o (pe_gl m) (p + 1).toNat = p := pe_fd_y hX.1 ⟨B1, (show (pe_rw (m 8) (m 0 0) (m 7 0) p).1 = o by omega), (show pe_fd (m 8) (m 0 0) (m 7 0) o (pe_gl m) p.toNat = -1 ∨ (pe_rw (m 8) (m 0 0) (m 7 0) p).2 ≤ pe_gl m by omega)⟩; refine pe_drop 5 ?_; exact ih (_, _, _, _) ⟨hB, hfr, hor, hG, hY, hO, E1.symm, by (try dsimp only); omega⟩ (by (try dsimp only); omega))
              | (have E2 : pe_fd (m 8) (m 0 0) (m 7 0) o (pe_gl m) (p + 1).toNat = pe_fd (m 8) (m 0 0) (m 7 0) o (pe_gl m) p.toNat := pe_fd_n hX.1 (fun w => by (have Y1 := hY p hX.1 (by omega) w.1); (have B1 := bgp.mpr w.1); (have W1 := w.2); omega); refine pe_drop 5 ?_; exact ih (_, _, _, _) ⟨hB, hfr, hor, hG, hY, hO, hq.trans E2.symm, by (try dsimp only); omega⟩ (by (try dsimp only); omega)))
            · skip
              refine pe_iload d_M_upOrDown_122 rfl ?_
              refine pe_istore_n d_M_upOrDown_124 ?_
              refine pe_iinc d_M_upOrDown_125 rfl ?_
              refine pe_goto (t := 63) d_M_upOrDown_128 ?_
              (first
              | (exfalso; omega)
              | (have B1 := bgp.mp (by omega); have Y1 := hY p hX.1 (by omega) B1; have E1 : pe_fd (m 8) (m 0 0) (m 7 0) o (pe_gl m) (p + 1).toNat = p := pe_fd_y hX.1 ⟨B1, (show (pe_rw (m 8) (m 0 0) (m 7 0) p).1 = o by omega), (show pe_fd (m 8) (m 0 0) (m 7 0) o (pe_gl m) p.toNat = -1 ∨ (pe_rw (m 8) (m 0 0) (m 7 0) p).2 ≤ pe_gl m by omega)⟩; refine pe_drop 5 ?_; exact ih (_, _, _, _) ⟨hB, hfr, hor, hG, hY, hO, E1.symm, by (try dsimp only); omega⟩ (by (try dsimp only); omega))
              | (have E2 : pe_fd (m 8) (m 0 0) (m 7 0) o (pe_gl m) (p + 1).toNat = pe_fd (m 8) (m 0 0) (m 7 0) o (pe_gl m) p.toNat := pe_fd_n hX.1 (fun w => by (have Y1 := hY p hX.1 (by omega) w.1); (have B1 := bgp.mpr w.1); (have W1 := w.2); omega); refine pe_drop 5 ?_; exact ih (_, _, _, _) ⟨hB, hfr, hor, hG, hY, hO, hq.trans E2.symm, by (try dsimp only); omega⟩ (by (try dsimp only); omega)))
      · skip
        refine pe_aload_n d_M_upOrDown_81 rfl ?_
        refine pe_getr f_M_41 d_M_upOrDown_82 rfl rfl ?_
        refine pe_iload d_M_upOrDown_85 rfl ?_
        refine pe_iald d_M_upOrDown_87 rfl (by omega) (by omega) ?_
        refine pe_iload_n d_M_upOrDown_88 rfl ?_
        refine pe_icmp_ne (t := 96) d_M_upOrDown_89 (by first | exact hB _ _ | exact hB0 _ _ | exact hBt _ _ | exact ⟨by omega, by omega⟩) (by first | exact hB _ _ | exact hB0 _ _ | exact hBt _ _ | exact ⟨by omega, by omega⟩) (fun h89 => ?_) (fun h89 => ?_)
        · skip
          refine pe_iconst d_M_upOrDown_96 ?_
          refine pe_istore d_M_upOrDown_97 ?_
          refine pe_iload d_M_upOrDown_99 rfl ?_
          refine pe_if_eq (t := 125) d_M_upOrDown_101 (by first | exact hB _ _ | exact hB0 _ _ | exact hBt _ _ | exact ⟨by omega, by omega⟩) (fun h101 => ?_) (fun h101 => ?_)
          · skip
            refine pe_iinc d_M_upOrDown_125 rfl ?_
            refine pe_goto (t := 63) d_M_upOrDown_128 ?_
            (first
            | (exfalso; omega)
            | (have B1 := bgp.mp (by omega); have Y1 := hY p hX.1 (by omega) B1; have E1 : pe_fd (m 8) (m 0 0) (m 7 0) o (pe_gl m) (p + 1).toNat = p := pe_fd_y hX.1 ⟨B1, (show (pe_rw (m 8) (m 0 0) (m 7 0) p).1 = o by omega), (show pe_fd (m 8) (m 0 0) (m 7 0) o (pe_gl m) p.toNat = -1 ∨ (pe_rw (m 8) (m 0 0) (m 7 0) p).2 ≤ pe_gl m by omega)⟩; refine pe_drop 5 ?_; exact ih (_, _, _, _) ⟨hB, hfr, hor, hG, hY, hO, E1.symm, by (try dsimp only); omega⟩ (by (try dsimp only); omega))
            | (have E2 : pe_fd (m 8) (m 0 0) (m 7 0) o (pe_gl m) (p + 1).toNat = pe_fd (m 8) (m 0 0) (m 7 0) o (pe_gl m) p.toNat := pe_fd_n hX.1 (fun w => by (have Y1 := hY p hX.1 (by omega) w.1); (have B1 := bgp.mpr w.1); (have W1 := w.2); omega); refine pe_drop 5 ?_; exact ih (_, _, _, _) ⟨hB, hfr, hor, hG, hY, hO, hq.trans E2.symm, by (try dsimp only); omega⟩ (by (try dsimp only); omega)))
          · skip
            refine pe_iload_n d_M_upOrDown_104 rfl ?_
            refine pe_if_lt (t := 122) d_M_upOrDown_105 (by first | exact hB _ _ | exact hB0 _ _ | exact hBt _ _ | exact ⟨by omega, by omega⟩) (fun h105 => ?_) (fun h105 => ?_)
            · skip
              refine pe_iload d_M_upOrDown_122 rfl ?_
              refine pe_istore_n d_M_upOrDown_124 ?_
              refine pe_iinc d_M_upOrDown_125 rfl ?_
              refine pe_goto (t := 63) d_M_upOrDown_128 ?_
              (first
              | (exfalso; omega)
              | (have B1 := bgp.mp (by omega); have Y1 := hY p hX.1 (by omega) B1; have E1 : pe_fd (m 8) (m 0 0) (m 7 0) o (pe_gl m) (p + 1).toNat = p := pe_fd_y hX.1 ⟨B1, (show (pe_rw (m 8) (m 0 0) (m 7 0) p).1 = o by omega), (show pe_fd (m 8) (m 0 0) (m 7 0) o (pe_gl m) p.toNat = -1 ∨ (pe_rw (m 8) (m 0 0) (m 7 0) p).2 ≤ pe_gl m by omega)⟩; refine pe_drop 5 ?_; exact ih (_, _, _, _) ⟨hB, hfr, hor, hG, hY, hO, E1.symm, by (try dsimp only); omega⟩ (by (try dsimp only); omega))
              | (have E2 : pe_fd (m 8) (m 0 0) (m 7 0) o (pe_gl m) (p + 1).toNat = pe_fd (m 8) (m 0 0) (m 7 0) o (pe_gl m) p.toNat := pe_fd_n hX.1 (fun w => by (have Y1 := hY p hX.1 (by omega) w.1); (have B1 := bgp.mpr w.1); (have W1 := w.2); omega); refine pe_drop 5 ?_; exact ih (_, _, _, _) ⟨hB, hfr, hor, hG, hY, hO, hq.trans E2.symm, by (try dsimp only); omega⟩ (by (try dsimp only); omega)))
            · skip
              refine pe_aload_n d_M_upOrDown_108 rfl ?_
              refine pe_getr f_M_44 d_M_upOrDown_109 rfl rfl ?_
              refine pe_iload d_M_upOrDown_112 rfl ?_
              refine pe_iald d_M_upOrDown_114 rfl (by omega) (by omega) ?_
              refine pe_aload_n d_M_upOrDown_115 rfl ?_
              refine pe_geti f_M_20 d_M_upOrDown_116 rfl rfl 6 rfl ?_
              refine pe_icmp_gt (t := 125) d_M_upOrDown_119 (by first | exact hB _ _ | exact hB0 _ _ | exact hBt _ _ | exact ⟨by omega, by omega⟩) (by first | exact hB _ _ | exact hB0 _ _ | exact hBt _ _ | exact ⟨by omega, by omega⟩) (fun h119 => ?_) (fun h119 => ?_)
              · skip
                refine pe_iinc d_M_upOrDown_125 rfl ?_
                refine pe_goto (t := 63) d_M_upOrDown_128 ?_
                (first
                | (exfalso; omega)
                | (have B1 := bgp.mp (by omega); have Y1 := hY p hX.1 (by omega) B1; have E1 : pe_fd (m 8) (m 0 0) (m 7 0) o (pe_gl m) (p + 1).toNat = p := pe_fd_y hX.1 ⟨B1, (show (pe_rw (m 8) (m 0 0) (m 7 0) p).1 = o by omega), (show pe_fd (m 8) (m 0 0) (m 7 0) o (pe_gl m) p.toNat = -1 ∨ (pe_rw (m 8) (m 0 0) (m 7 0) p).2 ≤ pe_gl m by omega)⟩; refine pe_drop 5 ?_; exact ih (_, _, _, _) ⟨hB, hfr, hor, hG, hY, hO, E1.symm, by (try dsimp only); omega⟩ (by (try dsimp only); omega))
                | (have E2 : pe_fd (m 8) (m 0 0) (m 7 0) o (pe_gl m) (p + 1).toNat = pe_fd (m 8) (m 0 0) (m 7 0) o (pe_gl m) p.toNat := pe_fd_n hX.1 (fun w => by (have Y1 := hY p hX.1 (by omega) w.1); (have B1 := bgp.mpr w.1); (have W1 := w.2); omega); refine pe_drop 5 ?_; exact ih (_, _, _, _) ⟨hB, hfr, hor, hG, hY, hO, hq.trans E2.symm, by (try dsimp only); omega⟩ (by (try dsimp only); omega)))
              · skip
                refine pe_iload d_M_upOrDown_122 rfl ?_
                refine pe_istore_n d_M_upOrDown_124 ?_
                refine pe_iinc d_M_upOrDown_125 rfl ?_
                refine pe_goto (t := 63) d_M_upOrDown_128 ?_
                (first
                | (exfalso; omega)
                | (have B1 := bgp.mp (by omega); have Y1 := hY p hX.1 (by omega) B1; have E1 : pe_fd (m 8) (m 0 0) (m 7 0) o (pe_gl m) (p + 1).toNat = p := pe_fd_y hX.1 ⟨B1, (show (pe_rw (m 8) (m 0 0) (m 7 0) p).1 = o by omega), (show pe_fd (m 8) (m 0 0) (m 7 0) o (pe_gl m) p.toNat = -1 ∨ (pe_rw (m 8) (m 0 0) (m 7 0) p).2 ≤ pe_gl m by omega)⟩; refine pe_drop 5 ?_; exact ih (_, _, _, _) ⟨hB, hfr, hor, hG, hY, hO, E1.symm, by (try dsimp only); omega⟩ (by (try dsimp only); omega))
                | (have E2 : pe_fd (m 8) (m 0 0) (m 7 0) o (pe_gl m) (p + 1).toNat = pe_fd (m 8) (m 0 0) (m 7 0) o (pe_gl m) p.toNat := pe_fd_n hX.1 (fun w => by (have Y1 := hY p hX.1 (by omega) w.1); (have B1 := bgp.mpr w.1); (have W1 := w.2); omega); refine pe_drop 5 ?_; exact ih (_, _, _, _) ⟨hB, hfr, hor, hG, hY, hO, hq.trans E2.symm, by (try dsimp only); omega⟩ (by (try dsimp only); omega)))
        · skip
          refine pe_iconst d_M_upOrDown_92 ?_
          refine pe_goto (t := 97) d_M_upOrDown_93 ?_
          refine pe_istore d_M_upOrDown_97 ?_
          refine pe_iload d_M_upOrDown_99 rfl ?_
          refine pe_if_eq (t := 125) d_M_upOrDown_101 (by first | exact hB _ _ | exact hB0 _ _ | exact hBt _ _ | exact ⟨by omega, by omega⟩) (fun h101 => ?_) (fun h101 => ?_)
          · skip
            refine pe_iinc d_M_upOrDown_125 rfl ?_
            refine pe_goto (t := 63) d_M_upOrDown_128 ?_
            (first
            | (exfalso; omega)
            | (have B1 := bgp.mp (by omega); have Y1 := hY p hX.1 (by omega) B1; have E1 : pe_fd (m 8) (m 0 0) (m 7 0) o (pe_gl m) (p + 1).toNat = p := pe_fd_y hX.1 ⟨B1, (show (pe_rw (m 8) (m 0 0) (m 7 0) p).1 = o by omega), (show pe_fd (m 8) (m 0 0) (m 7 0) o (pe_gl m) p.toNat = -1 ∨ (pe_rw (m 8) (m 0 0) (m 7 0) p).2 ≤ pe_gl m by omega)⟩; refine pe_drop 5 ?_; exact ih (_, _, _, _) ⟨hB, hfr, hor, hG, hY, hO, E1.symm, by (try dsimp only); omega⟩ (by (try dsimp only); omega))
            | (have E2 : pe_fd (m 8) (m 0 0) (m 7 0) o (pe_gl m) (p + 1).toNat = pe_fd (m 8) (m 0 0) (m 7 0) o (pe_gl m) p.toNat := pe_fd_n hX.1 (fun w => by (have Y1 := hY p hX.1 (by omega) w.1); (have B1 := bgp.mpr w.1); (have W1 := w.2); omega); refine pe_drop 5 ?_; exact ih (_, _, _, _) ⟨hB, hfr, hor, hG, hY, hO, hq.trans E2.symm, by (try dsimp only); omega⟩ (by (try dsimp only); omega)))
          · skip
            refine pe_iload_n d_M_upOrDown_104 rfl ?_
            refine pe_if_lt (t := 122) d_M_upOrDown_105 (by first | exact hB _ _ | exact hB0 _ _ | exact hBt _ _ | exact ⟨by omega, by omega⟩) (fun h105 => ?_) (fun h105 => ?_)
            · skip
              refine pe_iload d_M_upOrDown_122 rfl ?_
              refine pe_istore_n d_M_upOrDown_124 ?_
              refine pe_iinc d_M_upOrDown_125 rfl ?_
              refine pe_goto (t := 63) d_M_upOrDown_128 ?_
              (first
              | (exfalso; omega)
              | (have B1 := bgp.mp (by omega); have Y1 := hY p hX.1 (by omega) B1; have E1 : pe_fd (m 8) (m 0 0) (m 7 0) o (pe_gl m) (p + 1).toNat = p := pe_fd_y hX.1 ⟨B1, (show (pe_rw (m 8) (m 0 0) (m 7 0) p).1 = o by omega), (show pe_fd (m 8) (m 0 0) (m 7 0) o (pe_gl m) p.toNat = -1 ∨ (pe_rw (m 8) (m 0 0) (m 7 0) p).2 ≤ pe_gl m by omega)⟩; refine pe_drop 5 ?_; exact ih (_, _, _, _) ⟨hB, hfr, hor, hG, hY, hO, E1.symm, by (try dsimp only); omega⟩ (by (try dsimp only); omega))
              | (have E2 : pe_fd (m 8) (m 0 0) (m 7 0) o (pe_gl m) (p + 1).toNat = pe_fd (m 8) (m 0 0) (m 7 0) o (pe_gl m) p.toNat := pe_fd_n hX.1 (fun w => by (have Y1 := hY p hX.1 (by omega) w.1); (have B1 := bgp.mpr w.1); (have W1 := w.2); omega); refine pe_drop 5 ?_; exact ih (_, _, _, _) ⟨hB, hfr, hor, hG, hY, hO, hq.trans E2.symm, by (try dsimp only); omega⟩ (by (try dsimp only); omega)))
            · skip
              refine pe_aload_n d_M_upOrDown_108 rfl ?_
              refine pe_getr f_M_44 d_M_upOrDown_109 rfl rfl ?_
              refine pe_iload d_M_upOrDown_112 rfl ?_
              refine pe_iald d_M_upOrDown_114 rfl (by omega) (by omega) ?_
              refine pe_aload_n d_M_upOrDown_115 rfl ?_
              refine pe_geti f_M_20 d_M_upOrDown_116 rfl rfl 6 rfl ?_
              refine pe_icmp_gt (t := 125) d_M_upOrDown_119 (by first | exact hB _ _ | exact hB0 _ _ | exact hBt _ _ | exact ⟨by omega, by omega⟩) (by first | exact hB _ _ | exact hB0 _ _ | exact hBt _ _ | exact ⟨by omega, by omega⟩) (fun h119 => ?_) (fun h119 => ?_)
              · skip
                refine pe_iinc d_M_upOrDown_125 rfl ?_
                refine pe_goto (t := 63) d_M_upOrDown_128 ?_
                (first
                | (exfalso; omega)
                | (have B1 := bgp.mp (by omega); have Y1 := hY p hX.1 (by omega) B1; have E1 : pe_fd (m 8) (m 0 0) (m 7 0) o (pe_gl m) (p + 1).toNat = p := pe_fd_y hX.1 ⟨B1, (show (pe_rw (m 8) (m 0 0) (m 7 0) p).1 = o by omega), (show pe_fd (m 8) (m 0 0) (m 7 0) o (pe_gl m) p.toNat = -1 ∨ (pe_rw (m 8) (m 0 0) (m 7 0) p).2 ≤ pe_gl m by omega)⟩; refine pe_drop 5 ?_; exact ih (_, _, _, _) ⟨hB, hfr, hor, hG, hY, hO, E1.symm, by (try dsimp only); omega⟩ (by (try dsimp only); omega))
                | (have E2 : pe_fd (m 8) (m 0 0) (m 7 0) o (pe_gl m) (p + 1).toNat = pe_fd (m 8) (m 0 0) (m 7 0) o (pe_gl m) p.toNat := pe_fd_n hX.1 (fun w => by (have Y1 := hY p hX.1 (by omega) w.1); (have B1 := bgp.mpr w.1); (have W1 := w.2); omega); refine pe_drop 5 ?_; exact ih (_, _, _, _) ⟨hB, hfr, hor, hG, hY, hO, hq.trans E2.symm, by (try dsimp only); omega⟩ (by (try dsimp only); omega)))
              · skip
                refine pe_iload d_M_upOrDown_122 rfl ?_
                refine pe_istore_n d_M_upOrDown_124 ?_
                refine pe_iinc d_M_upOrDown_125 rfl ?_
                refine pe_goto (t := 63) d_M_upOrDown_128 ?_
                (first
                | (exfalso; omega)
                | (have B1 := bgp.mp (by omega); have Y1 := hY p hX.1 (by omega) B1; have E1 : pe_fd (m 8) (m 0 0) (m 7 0) o (pe_gl m) (p + 1).toNat = p := pe_fd_y hX.1 ⟨B1, (show (pe_rw (m 8) (m 0 0) (m 7 0) p).1 = o by omega), (show pe_fd (m 8) (m 0 0) (m 7 0) o (pe_gl m) p.toNat = -1 ∨ (pe_rw (m 8) (m 0 0) (m 7 0) p).2 ≤ pe_gl m by omega)⟩; refine pe_drop 5 ?_; exact ih (_, _, _, _) ⟨hB, hfr, hor, hG, hY, hO, E1.symm, by (try dsimp only); omega⟩ (by (try dsimp only); omega))
                | (have E2 : pe_fd (m 8) (m 0 0) (m 7 0) o (pe_gl m) (p + 1).toNat = pe_fd (m 8) (m 0 0) (m 7 0) o (pe_gl m) p.toNat := pe_fd_n hX.1 (fun w => by (have Y1 := hY p hX.1 (by omega) w.1); (have B1 := bgp.mpr w.1); (have W1 := w.2); omega); refine pe_drop 5 ?_; exact ih (_, _, _, _) ⟨hB, hfr, hor, hG, hY, hO, hq.trans E2.symm, by (try dsimp only); omega⟩ (by (try dsimp only); omega)))
  refine pe_aload_n d_M_upOrDown_0 rfl ?_
  refine pe_geti f_M_78 d_M_upOrDown_1 rfl rfl 21 rfl ?_
  refine pe_iconst d_M_upOrDown_4 ?_
  refine pe_icmp_ge (t := 9) d_M_upOrDown_5 (by first | exact hB _ _ | exact hB0 _ _ | exact hBt _ _ | exact ⟨by omega, by omega⟩) (by first | exact hB _ _ | exact hB0 _ _ | exact hBt _ _ | exact ⟨by omega, by omega⟩) (fun h5 => ?_) (fun h5 => ?_)
  · skip
    refine pe_aload_n d_M_upOrDown_9 rfl ?_
    refine pe_v0v d_M_upOrDown_10 c_M_165 i_M_layOut s_M_layOut rfl rfl (x_M_layOut hB hA hw (by omega)) (fun σ10 hz10 => ?_)
    obtain ⟨hB, f10, o10, x10⟩ := hz10
    try have u10_0 : σ10 29 1 = σ 29 1 := by first | exact o10 1 (by decide) | exact congrFun (f10 29 (by decide)) 1
    try have u10_1 : σ10 29 2 = σ 29 2 := by first | exact o10 2 (by decide) | exact congrFun (f10 29 (by decide)) 2
    try have u10_2 : σ10 29 3 = σ 29 3 := by first | exact o10 3 (by decide) | exact congrFun (f10 29 (by decide)) 3
    try have u10_3 : σ10 29 5 = σ 29 5 := by first | exact o10 5 (by decide) | exact congrFun (f10 29 (by decide)) 5
    try have u10_4 : σ10 29 6 = σ 29 6 := by first | exact o10 6 (by decide) | exact congrFun (f10 29 (by decide)) 6
    try have u10_5 : σ10 29 7 = σ 29 7 := by first | exact o10 7 (by decide) | exact congrFun (f10 29 (by decide)) 7
    try have u10_6 : σ10 29 19 = σ 29 19 := by first | exact o10 19 (by decide) | exact congrFun (f10 29 (by decide)) 19
    try have u10_7 : σ10 29 21 = σ 29 21 := by first | exact o10 21 (by decide) | exact congrFun (f10 29 (by decide)) 21
    try have u10_8 : σ10 29 26 = σ 29 26 := by first | exact o10 26 (by decide) | exact congrFun (f10 29 (by decide)) 26
    have rb := pe_rw_b (m 8) (m 0 0) (m 7 0) (m 1 0) (by omega) w2.1
    have rn := pe_rw_b (m 8) (m 0 0) (m 7 0) (m 0 0) (by omega) w1.1
    have c2 : σ10 29 2 = m 1 0 := by omega
    have C1 : σ10 37 (σ10 29 2) = (pe_rw (m 8) (m 0 0) (m 7 0) (m 1 0)).1 := by rw [c2]; exact (x10.1 (m 1 0) w2.1 w2.2 hg).1
    have C2 : σ10 38 (σ10 29 2) = (pe_rw (m 8) (m 0 0) (m 7 0) (m 1 0)).2 := by rw [c2]; exact (x10.1 (m 1 0) w2.1 w2.2 hg).2
    have x26 := x10.2
    refine pe_aload_n d_M_upOrDown_13 rfl ?_
    refine pe_getr f_M_41 d_M_upOrDown_14 rfl rfl ?_
    refine pe_aload_n d_M_upOrDown_17 rfl ?_
    refine pe_geti f_M_117 d_M_upOrDown_18 rfl rfl 2 rfl ?_
    refine pe_iald d_M_upOrDown_21 rfl (by omega) (by omega) ?_
    refine pe_iload_n d_M_upOrDown_22 rfl ?_
    refine pe_iadd d_M_upOrDown_23 ?_
    refine pe_istore_n d_M_upOrDown_24 ?_
    refine pe_aload_n d_M_upOrDown_25 rfl ?_
    refine pe_geti f_M_20 d_M_upOrDown_26 rfl rfl 6 rfl ?_
    refine pe_if_ge (t := 45) d_M_upOrDown_29 (by first | exact hB _ _ | exact hB0 _ _ | exact hBt _ _ | exact ⟨by omega, by omega⟩) (fun h29 => ?_) (fun h29 => ?_)
    · skip
      have GL : σ10 29 6 = pe_gl m := by
        unfold pe_gl
        first | (rw [if_neg (by omega)]; omega) | (rw [if_pos (by omega), e42]; exact C2)
      have Y37 : σ10 37 = σ10 37 := (rfl)
      have Y38 : σ10 38 = σ10 38 := (rfl)
      refine pe_iload_n d_M_upOrDown_45 rfl ?_
      refine pe_if_lt (t := 57) d_M_upOrDown_46 (by first | exact hB _ _ | exact hB0 _ _ | exact hBt _ _ | exact ⟨by omega, by omega⟩) (fun h46 => ?_) (fun h46 => ?_)
      · skip
        refine pe_rv d_M_upOrDown_57 ?_
        have F0 : ∀ b, b ∉ [29, 37, 38, 39] → σ10 b = σ b := (fun b hb => (f10 b (by simp at hb ⊢; try omega)).trans (rfl))
        have O0 : ∀ j, j ∉ ([2, 6, 26] : List Int) → σ10 29 j = σ 29 j := (fun j hj => (o10 j (by simp at hj ⊢; try omega)).trans (rfl))
        exact ⟨hB, F0, O0, by
          unfold pe_eMv; rw [if_neg (by omega), pe_mf_0 (by omega) w1.1 (by omega), if_pos rfl]
          exact pe_ra_gc hA (fun b hb => F0 b (by simp at hb ⊢; omega)) (fun j hj => O0 j (by simp at hj ⊢; omega)) GL (by omega)⟩
      · skip
        refine pe_iload_n d_M_upOrDown_49 rfl ?_
        refine pe_aload_n d_M_upOrDown_50 rfl ?_
        refine pe_geti f_M_104 d_M_upOrDown_51 rfl rfl 26 rfl ?_
        refine pe_icmp_le (t := 58) d_M_upOrDown_54 (by first | exact hB _ _ | exact hB0 _ _ | exact hBt _ _ | exact ⟨by omega, by omega⟩) (by first | exact hB _ _ | exact hB0 _ _ | exact hBt _ _ | exact ⟨by omega, by omega⟩) (fun h54 => ?_) (fun h54 => ?_)
        · skip
          refine pe_iconst d_M_upOrDown_58 ?_
          refine pe_istore_n d_M_upOrDown_59 ?_
          refine pe_iconst d_M_upOrDown_60 ?_
          refine pe_istore d_M_upOrDown_61 ?_
          exact J63 (_, _, _, _) ⟨hB, (fun b hb => (f10 b (by simp at hb ⊢; try omega)).trans (rfl)), (fun j hj => (o10 j (by simp at hj ⊢; try omega)).trans (rfl)), ⟨GL, by omega⟩, by (try dsimp only); rw [Y37, Y38]; exact x10.1, by (try dsimp only); omega, by (try dsimp only); rfl, by (try dsimp only); omega⟩
        · skip
          refine pe_rv d_M_upOrDown_57 ?_
          have F0 : ∀ b, b ∉ [29, 37, 38, 39] → σ10 b = σ b := (fun b hb => (f10 b (by simp at hb ⊢; try omega)).trans (rfl))
          have O0 : ∀ j, j ∉ ([2, 6, 26] : List Int) → σ10 29 j = σ 29 j := (fun j hj => (o10 j (by simp at hj ⊢; try omega)).trans (rfl))
          exact ⟨hB, F0, O0, by
            unfold pe_eMv; rw [if_neg (by omega), pe_mf_0 (by omega) w1.1 (by omega), if_pos rfl]
            exact pe_ra_gc hA (fun b hb => F0 b (by simp at hb ⊢; omega)) (fun j hj => O0 j (by simp at hj ⊢; omega)) GL (by omega)⟩
    · skip
      refine pe_aload_n d_M_upOrDown_32 rfl ?_
      refine pe_aload_n d_M_upOrDown_33 rfl ?_
      refine pe_getr f_M_44 d_M_upOrDown_34 rfl rfl ?_
      refine pe_aload_n d_M_upOrDown_37 rfl ?_
      refine pe_geti f_M_117 d_M_upOrDown_38 rfl rfl 2 rfl ?_
      refine pe_iald d_M_upOrDown_41 rfl (by omega) (by omega) ?_
      refine pe_putiT f_M_20 g_11_6 d_M_upOrDown_42 rfl rfl 6 rfl hB (by first | exact hB _ _ | exact hB0 _ _ | exact hBt _ _ | exact ⟨by omega, by omega⟩) (fun σ42 hB e42 o42 f42 => ?_)
      try have u42_0 : σ42 29 1 = σ10 29 1 := by first | exact o42 1 (by decide) | exact congrFun (f42 29 (by decide)) 1
      try have u42_1 : σ42 29 2 = σ10 29 2 := by first | exact o42 2 (by decide) | exact congrFun (f42 29 (by decide)) 2
      try have u42_2 : σ42 29 3 = σ10 29 3 := by first | exact o42 3 (by decide) | exact congrFun (f42 29 (by decide)) 3
      try have u42_3 : σ42 29 5 = σ10 29 5 := by first | exact o42 5 (by decide) | exact congrFun (f42 29 (by decide)) 5
      try have u42_4 : σ42 29 6 = σ10 29 6 := by first | exact o42 6 (by decide) | exact congrFun (f42 29 (by decide)) 6
      try have u42_5 : σ42 29 7 = σ10 29 7 := by first | exact o42 7 (by decide) | exact congrFun (f42 29 (by decide)) 7
      try have u42_6 : σ42 29 19 = σ10 29 19 := by first | exact o42 19 (by decide) | exact congrFun (f42 29 (by decide)) 19
      try have u42_7 : σ42 29 21 = σ10 29 21 := by first | exact o42 21 (by decide) | exact congrFun (f42 29 (by decide)) 21
      try have u42_8 : σ42 29 26 = σ10 29 26 := by first | exact o42 26 (by decide) | exact congrFun (f42 29 (by decide)) 26
      have GL : σ42 29 6 = pe_gl m := by
        unfold pe_gl
        first | (rw [if_neg (by omega)]; omega) | (rw [if_pos (by omega), e42]; exact C2)
      have Y37 : σ42 37 = σ10 37 := ((f42 37 (by decide)).trans (rfl))
      have Y38 : σ42 38 = σ10 38 := ((f42 38 (by decide)).trans (rfl))
      refine pe_iload_n d_M_upOrDown_45 rfl ?_
      refine pe_if_lt (t := 57) d_M_upOrDown_46 (by first | exact hB _ _ | exact hB0 _ _ | exact hBt _ _ | exact ⟨by omega, by omega⟩) (fun h46 => ?_) (fun h46 => ?_)
      · skip
        refine pe_rv d_M_upOrDown_57 ?_
        have F0 : ∀ b, b ∉ [29, 37, 38, 39] → σ42 b = σ b := (fun b hb => (f42 b (by simp at hb ⊢; try omega)).trans ((f10 b (by simp at hb ⊢; try omega)).trans (rfl)))
        have O0 : ∀ j, j ∉ ([2, 6, 26] : List Int) → σ42 29 j = σ 29 j := (fun j hj => (o42 j (by simp at hj ⊢; try omega)).trans ((o10 j (by simp at hj ⊢; try omega)).trans (rfl)))
        exact ⟨hB, F0, O0, by
          unfold pe_eMv; rw [if_neg (by omega), pe_mf_0 (by omega) w1.1 (by omega), if_pos rfl]
          exact pe_ra_gc hA (fun b hb => F0 b (by simp at hb ⊢; omega)) (fun j hj => O0 j (by simp at hj ⊢; omega)) GL (by omega)⟩
      · skip
        refine pe_iload_n d_M_upOrDown_49 rfl ?_
        refine pe_aload_n d_M_upOrDown_50 rfl ?_
        refine pe_geti f_M_104 d_M_upOrDown_51 rfl rfl 26 rfl ?_
        refine pe_icmp_le (t := 58) d_M_upOrDown_54 (by first | exact hB _ _ | exact hB0 _ _ | exact hBt _ _ | exact ⟨by omega, by omega⟩) (by first | exact hB _ _ | exact hB0 _ _ | exact hBt _ _ | exact ⟨by omega, by omega⟩) (fun h54 => ?_) (fun h54 => ?_)
        · skip
          refine pe_iconst d_M_upOrDown_58 ?_
          refine pe_istore_n d_M_upOrDown_59 ?_
          refine pe_iconst d_M_upOrDown_60 ?_
          refine pe_istore d_M_upOrDown_61 ?_
          exact J63 (_, _, _, _) ⟨hB, (fun b hb => (f42 b (by simp at hb ⊢; try omega)).trans ((f10 b (by simp at hb ⊢; try omega)).trans (rfl))), (fun j hj => (o42 j (by simp at hj ⊢; try omega)).trans ((o10 j (by simp at hj ⊢; try omega)).trans (rfl))), ⟨GL, by omega⟩, by (try dsimp only); rw [Y37, Y38]; exact x10.1, by (try dsimp only); omega, by (try dsimp only); rfl, by (try dsimp only); omega⟩
        · skip
          refine pe_rv d_M_upOrDown_57 ?_
          have F0 : ∀ b, b ∉ [29, 37, 38, 39] → σ42 b = σ b := (fun b hb => (f42 b (by simp at hb ⊢; try omega)).trans ((f10 b (by simp at hb ⊢; try omega)).trans (rfl)))
          have O0 : ∀ j, j ∉ ([2, 6, 26] : List Int) → σ42 29 j = σ 29 j := (fun j hj => (o42 j (by simp at hj ⊢; try omega)).trans ((o10 j (by simp at hj ⊢; try omega)).trans (rfl)))
          exact ⟨hB, F0, O0, by
            unfold pe_eMv; rw [if_neg (by omega), pe_mf_0 (by omega) w1.1 (by omega), if_pos rfl]
            exact pe_ra_gc hA (fun b hb => F0 b (by simp at hb ⊢; omega)) (fun j hj => O0 j (by simp at hj ⊢; omega)) GL (by omega)⟩
  · skip
    refine pe_rv d_M_upOrDown_8 ?_
    exact ⟨hB, (fun b hb => rfl), (fun j hj => rfl), by unfold pe_eMv; rw [if_pos (by omega)]; exact hA⟩
