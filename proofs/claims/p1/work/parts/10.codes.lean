/-! by program (wip/p4/spec1.py): Codes, Keyboard, Text -/
theorem pe_tm (a : Int) {b : Int} (hb : 0 < b) : -b < a.tmod b ∧ a.tmod b < b := by
  constructor
  · have := Int.lt_tmod_of_pos a hb; omega
  · exact Int.tmod_lt_of_pos a hb
theorem pe_td (a : Int) {b : Int} (hb : 0 < b) : a.tdiv b * b ≤ a + b ∧ a - b ≤ a.tdiv b * b := by
  have h1 := Int.tmod_def a b
  have h2 := pe_tm a hb
  rw [Int.mul_comm] at h1
  omega
theorem t_C_isMark {σ : pe_H} {c : Int} (hc : pe_R c) : pe_M m_C_isMark [pe_i c] σ (pe_qp σ (fun z => (z = 0 ∨ z = 1) ∧ (z = 1 ↔ 768 ≤ c ∧ c ≤ 879))) := by
  refine pe_in0 (lv := [some (pe_i c)]) ?_
  refine pe_iload_n d_C_isMark_0 rfl ?_
  refine pe_sipush d_C_isMark_1 ?_
  refine pe_icmp_lt (t := 18) d_C_isMark_4 (by first | exact hB _ _ | exact hB0 _ _ | exact hBt _ _ | exact ⟨by omega, by omega⟩) (by first | exact hB _ _ | exact hB0 _ _ | exact hBt _ _ | exact ⟨by omega, by omega⟩) (fun h4 => ?_) (fun h4 => ?_)
  · skip
    refine pe_iconst d_C_isMark_18 ?_
    refine pe_rz d_C_isMark_19 (by first | exact Or.inl rfl | exact Or.inr rfl | omega) ?_
    exact ⟨rfl, by (try dsimp only); omega⟩
  · skip
    refine pe_iload_n d_C_isMark_7 rfl ?_
    refine pe_sipush d_C_isMark_8 ?_
    refine pe_icmp_gt (t := 18) d_C_isMark_11 (by first | exact hB _ _ | exact hB0 _ _ | exact hBt _ _ | exact ⟨by omega, by omega⟩) (by first | exact hB _ _ | exact hB0 _ _ | exact hBt _ _ | exact ⟨by omega, by omega⟩) (fun h11 => ?_) (fun h11 => ?_)
    · skip
      refine pe_iconst d_C_isMark_18 ?_
      refine pe_rz d_C_isMark_19 (by first | exact Or.inl rfl | exact Or.inr rfl | omega) ?_
      exact ⟨rfl, by (try dsimp only); omega⟩
    · skip
      refine pe_iconst d_C_isMark_14 ?_
      refine pe_goto (t := 19) d_C_isMark_15 ?_
      refine pe_rz d_C_isMark_19 (by first | exact Or.inl rfl | exact Or.inr rfl | omega) ?_
      exact ⟨rfl, by (try dsimp only); omega⟩
theorem t_C_takesMarks {σ : pe_H} {c : Int} (hc : pe_R c) : pe_M m_C_takesMarks [pe_i c] σ (pe_qp σ (fun z => (z = 0 ∨ z = 1) ∧ (z = 1 ↔ 32 ≤ c ∧ ¬ (768 ≤ c ∧ c ≤ 879)))) := by
  refine pe_in0 (lv := [some (pe_i c)]) ?_
  refine pe_iload_n d_C_takesMarks_0 rfl ?_
  refine pe_bipush d_C_takesMarks_1 ?_
  refine pe_icmp_lt (t := 17) d_C_takesMarks_3 (by first | exact hB _ _ | exact hB0 _ _ | exact hBt _ _ | exact ⟨by omega, by omega⟩) (by first | exact hB _ _ | exact hB0 _ _ | exact hBt _ _ | exact ⟨by omega, by omega⟩) (fun h3 => ?_) (fun h3 => ?_)
  · skip
    refine pe_iconst d_C_takesMarks_17 ?_
    refine pe_rz d_C_takesMarks_18 (by first | exact Or.inl rfl | exact Or.inr rfl | omega) ?_
    exact ⟨rfl, by (try dsimp only); omega⟩
  · skip
    refine pe_iload_n d_C_takesMarks_6 rfl ?_
    refine pe_s1p d_C_takesMarks_7 c_C_9 z_C_isMark (t_C_isMark (by first | exact hB _ _ | exact hB0 _ _ | exact hBt _ _ | exact ⟨by omega, by omega⟩)) (fun z7 hz7 => ?_)
    refine pe_if_ne (t := 17) d_C_takesMarks_10 (by first | exact hB _ _ | exact hB0 _ _ | exact hBt _ _ | exact ⟨by omega, by omega⟩) (fun h10 => ?_) (fun h10 => ?_)
    · skip
      refine pe_iconst d_C_takesMarks_17 ?_
      refine pe_rz d_C_takesMarks_18 (by first | exact Or.inl rfl | exact Or.inr rfl | omega) ?_
      exact ⟨rfl, by (try dsimp only); omega⟩
    · skip
      refine pe_iconst d_C_takesMarks_13 ?_
      refine pe_goto (t := 18) d_C_takesMarks_14 ?_
      refine pe_rz d_C_takesMarks_18 (by first | exact Or.inl rfl | exact Or.inr rfl | omega) ?_
      exact ⟨rfl, by (try dsimp only); omega⟩
theorem t_C_isWide {σ : pe_H} {c : Int} (hc : pe_R c) : pe_M m_C_isWide [pe_i c] σ (pe_qp σ (fun z => (z = 0 ∨ z = 1) ∧ (z = 1 ↔ (11904 ≤ c ∧ c ≤ 55203) ∨ (65281 ≤ c ∧ c ≤ 65376)))) := by
  refine pe_in0 (lv := [some (pe_i c)]) ?_
  refine pe_iload_n d_C_isWide_0 rfl ?_
  refine pe_sipush d_C_isWide_1 ?_
  refine pe_icmp_lt (t := 13) d_C_isWide_4 (by first | exact hB _ _ | exact hB0 _ _ | exact hBt _ _ | exact ⟨by omega, by omega⟩) (by first | exact hB _ _ | exact hB0 _ _ | exact hBt _ _ | exact ⟨by omega, by omega⟩) (fun h4 => ?_) (fun h4 => ?_)
  · skip
    refine pe_iload_n d_C_isWide_13 rfl ?_
    refine pe_ldc q_C_16 d_C_isWide_14 (z := 65281) rfl ?_
    refine pe_icmp_lt (t := 29) d_C_isWide_16 (by first | exact hB _ _ | exact hB0 _ _ | exact hBt _ _ | exact ⟨by omega, by omega⟩) (by first | exact hB _ _ | exact hB0 _ _ | exact hBt _ _ | exact ⟨by omega, by omega⟩) (fun h16 => ?_) (fun h16 => ?_)
    · skip
      refine pe_iconst d_C_isWide_29 ?_
      refine pe_rz d_C_isWide_30 (by first | exact Or.inl rfl | exact Or.inr rfl | omega) ?_
      exact ⟨rfl, by (try dsimp only); omega⟩
    · skip
      refine pe_iload_n d_C_isWide_19 rfl ?_
      refine pe_ldc q_C_17 d_C_isWide_20 (z := 65376) rfl ?_
      refine pe_icmp_gt (t := 29) d_C_isWide_22 (by first | exact hB _ _ | exact hB0 _ _ | exact hBt _ _ | exact ⟨by omega, by omega⟩) (by first | exact hB _ _ | exact hB0 _ _ | exact hBt _ _ | exact ⟨by omega, by omega⟩) (fun h22 => ?_) (fun h22 => ?_)
      · skip
        refine pe_iconst d_C_isWide_29 ?_
        refine pe_rz d_C_isWide_30 (by first | exact Or.inl rfl | exact Or.inr rfl | omega) ?_
        exact ⟨rfl, by (try dsimp only); omega⟩
      · skip
        refine pe_iconst d_C_isWide_25 ?_
        refine pe_goto (t := 30) d_C_isWide_26 ?_
        refine pe_rz d_C_isWide_30 (by first | exact Or.inl rfl | exact Or.inr rfl | omega) ?_
        exact ⟨rfl, by (try dsimp only); omega⟩
  · skip
    refine pe_iload_n d_C_isWide_7 rfl ?_
    refine pe_ldc q_C_15 d_C_isWide_8 (z := 55203) rfl ?_
    refine pe_icmp_le (t := 25) d_C_isWide_10 (by first | exact hB _ _ | exact hB0 _ _ | exact hBt _ _ | exact ⟨by omega, by omega⟩) (by first | exact hB _ _ | exact hB0 _ _ | exact hBt _ _ | exact ⟨by omega, by omega⟩) (fun h10 => ?_) (fun h10 => ?_)
    · skip
      refine pe_iconst d_C_isWide_25 ?_
      refine pe_goto (t := 30) d_C_isWide_26 ?_
      refine pe_rz d_C_isWide_30 (by first | exact Or.inl rfl | exact Or.inr rfl | omega) ?_
      exact ⟨rfl, by (try dsimp only); omega⟩
    · skip
      refine pe_iload_n d_C_isWide_13 rfl ?_
      refine pe_ldc q_C_16 d_C_isWide_14 (z := 65281) rfl ?_
      refine pe_icmp_lt (t := 29) d_C_isWide_16 (by first | exact hB _ _ | exact hB0 _ _ | exact hBt _ _ | exact ⟨by omega, by omega⟩) (by first | exact hB _ _ | exact hB0 _ _ | exact hBt _ _ | exact ⟨by omega, by omega⟩) (fun h16 => ?_) (fun h16 => ?_)
      · skip
        refine pe_iconst d_C_isWide_29 ?_
        refine pe_rz d_C_isWide_30 (by first | exact Or.inl rfl | exact Or.inr rfl | omega) ?_
        exact ⟨rfl, by (try dsimp only); omega⟩
      · skip
        refine pe_iload_n d_C_isWide_19 rfl ?_
        refine pe_ldc q_C_17 d_C_isWide_20 (z := 65376) rfl ?_
        refine pe_icmp_gt (t := 29) d_C_isWide_22 (by first | exact hB _ _ | exact hB0 _ _ | exact hBt _ _ | exact ⟨by omega, by omega⟩) (by first | exact hB _ _ | exact hB0 _ _ | exact hBt _ _ | exact ⟨by omega, by omega⟩) (fun h22 => ?_) (fun h22 => ?_)
        · skip
          refine pe_iconst d_C_isWide_29 ?_
          refine pe_rz d_C_isWide_30 (by first | exact Or.inl rfl | exact Or.inr rfl | omega) ?_
          exact ⟨rfl, by (try dsimp only); omega⟩
        · skip
          refine pe_iconst d_C_isWide_25 ?_
          refine pe_goto (t := 30) d_C_isWide_26 ?_
          refine pe_rz d_C_isWide_30 (by first | exact Or.inl rfl | exact Or.inr rfl | omega) ?_
          exact ⟨rfl, by (try dsimp only); omega⟩
theorem t_C_widthOf {σ : pe_H} {c : Int} (hc : pe_R c) : pe_M m_C_widthOf [pe_i c] σ (pe_qp σ (fun z => (z = 1 ∨ z = 2) ∧ (z = 2 ↔ (11904 ≤ c ∧ c ≤ 55203) ∨ (65281 ≤ c ∧ c ≤ 65376)))) := by
  refine pe_in0 (lv := [some (pe_i c)]) ?_
  refine pe_iload_n d_C_widthOf_0 rfl ?_
  refine pe_s1p d_C_widthOf_1 c_C_18 z_C_isWide (t_C_isWide (by first | exact hB _ _ | exact hB0 _ _ | exact hBt _ _ | exact ⟨by omega, by omega⟩)) (fun z1 hz1 => ?_)
  refine pe_if_eq (t := 11) d_C_widthOf_4 (by first | exact hB _ _ | exact hB0 _ _ | exact hBt _ _ | exact ⟨by omega, by omega⟩) (fun h4 => ?_) (fun h4 => ?_)
  · skip
    refine pe_iconst d_C_widthOf_11 ?_
    refine pe_ri d_C_widthOf_12 ?_
    exact ⟨rfl, by (try dsimp only); omega⟩
  · skip
    refine pe_iconst d_C_widthOf_7 ?_
    refine pe_goto (t := 12) d_C_widthOf_8 ?_
    refine pe_ri d_C_widthOf_12 ?_
    exact ⟨rfl, by (try dsimp only); omega⟩
theorem t_C_characterOf {σ : pe_H} {c : Int} (hc : pe_R c) : pe_M m_C_characterOf [pe_i c] σ (pe_qp σ (fun z => z = c.tmod 65536)) := by
  refine pe_in0 (lv := [some (pe_i c)]) ?_
  refine pe_iload_n d_C_characterOf_0 rfl ?_
  refine pe_ldc q_C_21 d_C_characterOf_1 (z := 65536) rfl ?_
  refine pe_irem d_C_characterOf_3 (by first | exact hB _ _ | exact hB0 _ _ | exact hBt _ _ | exact ⟨by omega, by omega⟩) (by omega) (by first | exact hB _ _ | exact hB0 _ _ | exact hBt _ _ | exact ⟨by omega, by omega⟩) ?_
  refine pe_ri d_C_characterOf_4 ?_
  exact ⟨rfl, rfl⟩
theorem t_C_firstMarkOf {σ : pe_H} {c : Int} (hc : pe_R c) : pe_M m_C_firstMarkOf [pe_i c] σ (pe_qp σ (fun z => -1000 ≤ z ∧ z ≤ 1000)) := by
  refine pe_in0 (lv := [some (pe_i c), none]) ?_
  have h1 := pe_tm c (b := 8388608) (by omega)
  have h2 := pe_td (c.tmod 8388608) (b := 65536) (by omega)
  refine pe_iload_n d_C_firstMarkOf_0 rfl ?_
  refine pe_ldc q_C_22 d_C_firstMarkOf_1 (z := 8388608) rfl ?_
  refine pe_irem d_C_firstMarkOf_3 (by first | exact hB _ _ | exact hB0 _ _ | exact hBt _ _ | exact ⟨by omega, by omega⟩) (by omega) (by first | exact hB _ _ | exact hB0 _ _ | exact hBt _ _ | exact ⟨by omega, by omega⟩) ?_
  refine pe_ldc q_C_21 d_C_firstMarkOf_4 (z := 65536) rfl ?_
  refine pe_idiv d_C_firstMarkOf_6 (by first | exact hB _ _ | exact hB0 _ _ | exact hBt _ _ | exact ⟨by omega, by omega⟩) (by omega) (by first | exact hB _ _ | exact hB0 _ _ | exact hBt _ _ | exact ⟨by omega, by omega⟩) ?_
  refine pe_istore_n d_C_firstMarkOf_7 ?_
  refine pe_iload_n d_C_firstMarkOf_8 rfl ?_
  refine pe_if_ne (t := 16) d_C_firstMarkOf_9 (by first | exact hB _ _ | exact hB0 _ _ | exact hBt _ _ | exact ⟨by omega, by omega⟩) (fun h9 => ?_) (fun h9 => ?_)
  · skip
    refine pe_iload_n d_C_firstMarkOf_16 rfl ?_
    refine pe_sipush d_C_firstMarkOf_17 ?_
    refine pe_iadd d_C_firstMarkOf_20 ?_
    refine pe_ri d_C_firstMarkOf_21 ?_
    exact ⟨rfl, by (try dsimp only); omega⟩
  · skip
    refine pe_iconst d_C_firstMarkOf_12 ?_
    refine pe_goto (t := 21) d_C_firstMarkOf_13 ?_
    refine pe_ri d_C_firstMarkOf_21 ?_
    exact ⟨rfl, by (try dsimp only); omega⟩
theorem t_C_secondMarkOf {σ : pe_H} {c : Int} (hc : pe_R c) : pe_M m_C_secondMarkOf [pe_i c] σ (pe_qp σ (fun z => -1000 ≤ z ∧ z ≤ 2000)) := by
  refine pe_in0 (lv := [some (pe_i c), none]) ?_
  have h2 := pe_td c (b := 8388608) (by omega)
  refine pe_iload_n d_C_secondMarkOf_0 rfl ?_
  refine pe_ldc q_C_22 d_C_secondMarkOf_1 (z := 8388608) rfl ?_
  refine pe_idiv d_C_secondMarkOf_3 (by first | exact hB _ _ | exact hB0 _ _ | exact hBt _ _ | exact ⟨by omega, by omega⟩) (by omega) (by first | exact hB _ _ | exact hB0 _ _ | exact hBt _ _ | exact ⟨by omega, by omega⟩) ?_
  refine pe_istore_n d_C_secondMarkOf_4 ?_
  refine pe_iload_n d_C_secondMarkOf_5 rfl ?_
  refine pe_if_ne (t := 13) d_C_secondMarkOf_6 (by first | exact hB _ _ | exact hB0 _ _ | exact hBt _ _ | exact ⟨by omega, by omega⟩) (fun h6 => ?_) (fun h6 => ?_)
  · skip
    refine pe_iload_n d_C_secondMarkOf_13 rfl ?_
    refine pe_sipush d_C_secondMarkOf_14 ?_
    refine pe_iadd d_C_secondMarkOf_17 ?_
    refine pe_ri d_C_secondMarkOf_18 ?_
    exact ⟨rfl, by (try dsimp only); omega⟩
  · skip
    refine pe_iconst d_C_secondMarkOf_9 ?_
    refine pe_goto (t := 18) d_C_secondMarkOf_10 ?_
    refine pe_ri d_C_secondMarkOf_18 ?_
    exact ⟨rfl, by (try dsimp only); omega⟩
theorem t_C_withMark {σ : pe_H} {c m : Int} (hc : pe_R c) (hm : pe_R m) : pe_M m_C_withMark [pe_i c, pe_i m] σ (pe_qp σ (fun z => pe_R z)) := by
  refine pe_in0 (lv := [some (pe_i c), some (pe_i m), none]) ?_
  refine pe_iload_n d_C_withMark_0 rfl ?_
  refine pe_ldc q_C_21 d_C_withMark_1 (z := 65536) rfl ?_
  refine pe_icmp_ge (t := 11) d_C_withMark_3 (by first | exact hB _ _ | exact hB0 _ _ | exact hBt _ _ | exact ⟨by omega, by omega⟩) (by first | exact hB _ _ | exact hB0 _ _ | exact hBt _ _ | exact ⟨by omega, by omega⟩) (fun h3 => ?_) (fun h3 => ?_)
  · skip
    refine pe_ldc q_C_22 d_C_withMark_11 (z := 8388608) rfl ?_
    refine pe_istore_n d_C_withMark_13 ?_
    refine pe_iload_n d_C_withMark_14 rfl ?_
    refine pe_iload_n d_C_withMark_15 rfl ?_
    refine pe_iload_n d_C_withMark_16 rfl ?_
    refine pe_sipush d_C_withMark_17 ?_
    refine pe_isub d_C_withMark_20 ?_
    refine pe_imul d_C_withMark_21 ?_
    refine pe_iadd d_C_withMark_22 ?_
    refine pe_any (fun z hz => ?_)
    refine pe_ri d_C_withMark_23 ?_
    exact ⟨rfl, hz⟩
  · skip
    refine pe_ldc q_C_21 d_C_withMark_6 (z := 65536) rfl ?_
    refine pe_goto (t := 13) d_C_withMark_8 ?_
    refine pe_istore_n d_C_withMark_13 ?_
    refine pe_iload_n d_C_withMark_14 rfl ?_
    refine pe_iload_n d_C_withMark_15 rfl ?_
    refine pe_iload_n d_C_withMark_16 rfl ?_
    refine pe_sipush d_C_withMark_17 ?_
    refine pe_isub d_C_withMark_20 ?_
    refine pe_imul d_C_withMark_21 ?_
    refine pe_iadd d_C_withMark_22 ?_
    refine pe_any (fun z hz => ?_)
    refine pe_ri d_C_withMark_23 ?_
    exact ⟨rfl, hz⟩
