/-! the reference: when a cluster begins at a place; the changes that it keeps -/
def pe_bg (t : Int → Int) (n p : Int) : Prop := n ≤ p ∨ ¬ (768 ≤ t p ∧ t p ≤ 879) ∨ p < 1 ∨ ((768 ≤ t (p - 1) ∧ t (p - 1) ≤ 879) ∧ (p < 2 ∨ (768 ≤ t (p - 2) ∧ t (p - 2) ≤ 879) ∨ t (p - 2) = 9 ∨ t (p - 2) = 10)) ∨ (¬ (768 ≤ t (p - 1) ∧ t (p - 1) ≤ 879) ∧ (t (p - 1) = 9 ∨ t (p - 1) = 10))
def pe_wi (c : Int) : Prop := (11904 ≤ c ∧ c ≤ 55203) ∨ (65281 ≤ c ∧ c ≤ 65376)
def pe_mc (p c w u : Int → Int) : Nat → Int → Prop
  | 0, L => 0 ≤ L ∧ L ≤ 200
  | n + 1, L => (0 ≤ L ∧ L ≤ 200) ∧ (0 ≤ p n ∧ 0 ≤ c n ∧ 0 ≤ w n ∧ 0 ≤ u n) ∧ p n + c n ≤ L ∧ u n ≤ L - c n + w n ∧ pe_mc p c w u n (L - c n + w n)
theorem pe_mc_len {p c w u : Int → Int} : ∀ {n : Nat} {L : Int}, pe_mc p c w u n L → 0 ≤ L ∧ L ≤ 200
  | 0, _, h => h
  | _ + 1, _, h => h.1
theorem pe_mc_congr {p c w u p' c' w' u' : Int → Int} : ∀ (n : Nat) (L : Int), (∀ j : Int, 0 ≤ j → j < n → p' j = p j ∧ c' j = c j ∧ w' j = w j ∧ u' j = u j) → pe_mc p c w u n L → pe_mc p' c' w' u' n L
  | 0, _, _, h => h
  | n + 1, L, e, h => by
    unfold pe_mc at h ⊢
    have e0 := e n (by omega) (by omega)
    rw [e0.1, e0.2.1, e0.2.2.1, e0.2.2.2]
    exact ⟨h.1, h.2.1, h.2.2.1, h.2.2.2.1, pe_mc_congr n _ (fun j h1 h2 => e j h1 (by omega)) h.2.2.2.2⟩
theorem pe_mc_shift {p c w u p' c' w' u' : Int → Int} : ∀ (n : Nat) (L : Int), (∀ j : Int, 0 ≤ j → j < n → p' j = p (j + 1) ∧ c' j = c (j + 1) ∧ w' j = w (j + 1) ∧ u' j = u (j + 1)) → pe_mc p c w u (n + 1) L → pe_mc p' c' w' u' n L
  | 0, _, _, h => h.1
  | n + 1, L, e, h => by
    have e0 := e n (by omega) (by omega)
    have h1 : (0 ≤ L ∧ L ≤ 200) ∧ (0 ≤ p ((n + 1 : Nat) : Int) ∧ 0 ≤ c ((n + 1 : Nat) : Int) ∧ 0 ≤ w ((n + 1 : Nat) : Int) ∧ 0 ≤ u ((n + 1 : Nat) : Int)) ∧ p ((n + 1 : Nat) : Int) + c ((n + 1 : Nat) : Int) ≤ L ∧ u ((n + 1 : Nat) : Int) ≤ L - c ((n + 1 : Nat) : Int) + w ((n + 1 : Nat) : Int) ∧ pe_mc p c w u (n + 1) (L - c ((n + 1 : Nat) : Int) + w ((n + 1 : Nat) : Int)) := h
    rw [show ((n + 1 : Nat) : Int) = (n : Int) + 1 from rfl] at h1
    show (0 ≤ L ∧ L ≤ 200) ∧ (0 ≤ p' n ∧ 0 ≤ c' n ∧ 0 ≤ w' n ∧ 0 ≤ u' n) ∧ p' n + c' n ≤ L ∧ u' n ≤ L - c' n + w' n ∧ pe_mc p' c' w' u' n (L - c' n + w' n)
    rw [e0.1, e0.2.1, e0.2.2.1, e0.2.2.2]
    exact ⟨h1.1, h1.2.1, h1.2.2.1, h1.2.2.2.1, pe_mc_shift n _ (fun j a b => e j a (by omega)) h1.2.2.2.2⟩
theorem t_M_isMark {σ : pe_H} {c : Int} (hc : pe_R c) : pe_M m_M_isMark [pe_i c] σ (pe_qp σ (fun z => (z = 0 ∨ z = 1) ∧ (z = 1 ↔ 768 ≤ c ∧ c ≤ 879))) := by
  refine pe_in0 (lv := [some (pe_i c)]) ?_
  refine pe_iload_n d_M_isMark_0 rfl ?_
  refine pe_sipush d_M_isMark_1 ?_
  refine pe_icmp_lt (t := 18) d_M_isMark_4 (by first | exact hB _ _ | exact hB0 _ _ | exact hBt _ _ | exact ⟨by omega, by omega⟩) (by first | exact hB _ _ | exact hB0 _ _ | exact hBt _ _ | exact ⟨by omega, by omega⟩) (fun h4 => ?_) (fun h4 => ?_)
  · skip
    refine pe_iconst d_M_isMark_18 ?_
    refine pe_rz d_M_isMark_19 (by first | exact Or.inl rfl | exact Or.inr rfl | omega) ?_
    exact ⟨rfl, by (try dsimp only); (try unfold pe_wi); omega⟩
  · skip
    refine pe_iload_n d_M_isMark_7 rfl ?_
    refine pe_sipush d_M_isMark_8 ?_
    refine pe_icmp_gt (t := 18) d_M_isMark_11 (by first | exact hB _ _ | exact hB0 _ _ | exact hBt _ _ | exact ⟨by omega, by omega⟩) (by first | exact hB _ _ | exact hB0 _ _ | exact hBt _ _ | exact ⟨by omega, by omega⟩) (fun h11 => ?_) (fun h11 => ?_)
    · skip
      refine pe_iconst d_M_isMark_18 ?_
      refine pe_rz d_M_isMark_19 (by first | exact Or.inl rfl | exact Or.inr rfl | omega) ?_
      exact ⟨rfl, by (try dsimp only); (try unfold pe_wi); omega⟩
    · skip
      refine pe_iconst d_M_isMark_14 ?_
      refine pe_goto (t := 19) d_M_isMark_15 ?_
      refine pe_rz d_M_isMark_19 (by first | exact Or.inl rfl | exact Or.inr rfl | omega) ?_
      exact ⟨rfl, by (try dsimp only); (try unfold pe_wi); omega⟩
theorem t_M_isWide {σ : pe_H} {c : Int} (hc : pe_R c) : pe_M m_M_isWide [pe_i c] σ (pe_qp σ (fun z => (z = 0 ∨ z = 1) ∧ (z = 1 ↔ pe_wi c))) := by
  refine pe_in0 (lv := [some (pe_i c)]) ?_
  refine pe_iload_n d_M_isWide_0 rfl ?_
  refine pe_sipush d_M_isWide_1 ?_
  refine pe_icmp_lt (t := 13) d_M_isWide_4 (by first | exact hB _ _ | exact hB0 _ _ | exact hBt _ _ | exact ⟨by omega, by omega⟩) (by first | exact hB _ _ | exact hB0 _ _ | exact hBt _ _ | exact ⟨by omega, by omega⟩) (fun h4 => ?_) (fun h4 => ?_)
  · skip
    refine pe_iload_n d_M_isWide_13 rfl ?_
    refine pe_ldc q_M_85 d_M_isWide_14 (z := 65281) rfl ?_
    refine pe_icmp_lt (t := 29) d_M_isWide_16 (by first | exact hB _ _ | exact hB0 _ _ | exact hBt _ _ | exact ⟨by omega, by omega⟩) (by first | exact hB _ _ | exact hB0 _ _ | exact hBt _ _ | exact ⟨by omega, by omega⟩) (fun h16 => ?_) (fun h16 => ?_)
    · skip
      refine pe_iconst d_M_isWide_29 ?_
      refine pe_rz d_M_isWide_30 (by first | exact Or.inl rfl | exact Or.inr rfl | omega) ?_
      exact ⟨rfl, by (try dsimp only); (try unfold pe_wi); omega⟩
    · skip
      refine pe_iload_n d_M_isWide_19 rfl ?_
      refine pe_ldc q_M_86 d_M_isWide_20 (z := 65376) rfl ?_
      refine pe_icmp_gt (t := 29) d_M_isWide_22 (by first | exact hB _ _ | exact hB0 _ _ | exact hBt _ _ | exact ⟨by omega, by omega⟩) (by first | exact hB _ _ | exact hB0 _ _ | exact hBt _ _ | exact ⟨by omega, by omega⟩) (fun h22 => ?_) (fun h22 => ?_)
      · skip
        refine pe_iconst d_M_isWide_29 ?_
        refine pe_rz d_M_isWide_30 (by first | exact Or.inl rfl | exact Or.inr rfl | omega) ?_
        exact ⟨rfl, by (try dsimp only); (try unfold pe_wi); omega⟩
      · skip
        refine pe_iconst d_M_isWide_25 ?_
        refine pe_goto (t := 30) d_M_isWide_26 ?_
        refine pe_rz d_M_isWide_30 (by first | exact Or.inl rfl | exact Or.inr rfl | omega) ?_
        exact ⟨rfl, by (try dsimp only); (try unfold pe_wi); omega⟩
  · skip
    refine pe_iload_n d_M_isWide_7 rfl ?_
    refine pe_ldc q_M_84 d_M_isWide_8 (z := 55203) rfl ?_
    refine pe_icmp_le (t := 25) d_M_isWide_10 (by first | exact hB _ _ | exact hB0 _ _ | exact hBt _ _ | exact ⟨by omega, by omega⟩) (by first | exact hB _ _ | exact hB0 _ _ | exact hBt _ _ | exact ⟨by omega, by omega⟩) (fun h10 => ?_) (fun h10 => ?_)
    · skip
      refine pe_iconst d_M_isWide_25 ?_
      refine pe_goto (t := 30) d_M_isWide_26 ?_
      refine pe_rz d_M_isWide_30 (by first | exact Or.inl rfl | exact Or.inr rfl | omega) ?_
      exact ⟨rfl, by (try dsimp only); (try unfold pe_wi); omega⟩
    · skip
      refine pe_iload_n d_M_isWide_13 rfl ?_
      refine pe_ldc q_M_85 d_M_isWide_14 (z := 65281) rfl ?_
      refine pe_icmp_lt (t := 29) d_M_isWide_16 (by first | exact hB _ _ | exact hB0 _ _ | exact hBt _ _ | exact ⟨by omega, by omega⟩) (by first | exact hB _ _ | exact hB0 _ _ | exact hBt _ _ | exact ⟨by omega, by omega⟩) (fun h16 => ?_) (fun h16 => ?_)
      · skip
        refine pe_iconst d_M_isWide_29 ?_
        refine pe_rz d_M_isWide_30 (by first | exact Or.inl rfl | exact Or.inr rfl | omega) ?_
        exact ⟨rfl, by (try dsimp only); (try unfold pe_wi); omega⟩
      · skip
        refine pe_iload_n d_M_isWide_19 rfl ?_
        refine pe_ldc q_M_86 d_M_isWide_20 (z := 65376) rfl ?_
        refine pe_icmp_gt (t := 29) d_M_isWide_22 (by first | exact hB _ _ | exact hB0 _ _ | exact hBt _ _ | exact ⟨by omega, by omega⟩) (by first | exact hB _ _ | exact hB0 _ _ | exact hBt _ _ | exact ⟨by omega, by omega⟩) (fun h22 => ?_) (fun h22 => ?_)
        · skip
          refine pe_iconst d_M_isWide_29 ?_
          refine pe_rz d_M_isWide_30 (by first | exact Or.inl rfl | exact Or.inr rfl | omega) ?_
          exact ⟨rfl, by (try dsimp only); (try unfold pe_wi); omega⟩
        · skip
          refine pe_iconst d_M_isWide_25 ?_
          refine pe_goto (t := 30) d_M_isWide_26 ?_
          refine pe_rz d_M_isWide_30 (by first | exact Or.inl rfl | exact Or.inr rfl | omega) ?_
          exact ⟨rfl, by (try dsimp only); (try unfold pe_wi); omega⟩
theorem t_M_begins {σ : pe_H} {p : Int} (hB : pe_B σ) (hl : 0 ≤ σ 29 1 ∧ σ 29 1 ≤ 200) (hp : 0 ≤ p ∧ p ≤ 1000) : pe_M m_M_begins [pe_r 29, pe_i p] σ (pe_qp σ (fun z => (z = 0 ∨ z = 1) ∧ (z = 1 ↔ pe_bg (σ 30) (σ 29 1) p))) := by
  refine pe_in0 (lv := [some (pe_r 29), some (pe_i p), none]) ?_
  have hB0 := hB
  have J26 : ∀ b : Int, ((-1 ≤ b ∧ b < p) ∧ (p < σ 29 1 ∧ 768 ≤ σ 30 p ∧ σ 30 p ≤ 879) ∧ ∀ j, b < j → j < p → 768 ≤ σ 30 j ∧ σ 30 j ≤ 879) → pe_G m_M_begins 26 [some (pe_r 29), some (pe_i p), some (pe_i b)] [] σ (pe_qp σ (fun z => (z = 0 ∨ z = 1) ∧ (z = 1 ↔ pe_bg (σ 30) (σ 29 1) p))) := by
    refine pe_loop (fun b : Int => (b + 10).toNat) _ _ ?_
    intro b hI ih
    have m1 := hI.2.2 (p - 1)
    have m2 := hI.2.2 (p - 2)
    refine pe_iload_n d_M_begins_26 rfl ?_
    refine pe_if_lt (t := 48) d_M_begins_27 (by first | exact hB _ _ | exact hB0 _ _ | exact hBt _ _ | exact ⟨by omega, by omega⟩) (fun h27 => ?_) (fun h27 => ?_)
    · skip
      refine pe_iload_n d_M_begins_48 rfl ?_
      refine pe_if_lt (t := 81) d_M_begins_49 (by first | exact hB _ _ | exact hB0 _ _ | exact hBt _ _ | exact ⟨by omega, by omega⟩) (fun h49 => ?_) (fun h49 => ?_)
      · skip
        refine pe_iconst d_M_begins_81 ?_
        refine pe_goto (t := 86) d_M_begins_82 ?_
        refine pe_rz d_M_begins_86 (by first | exact Or.inl rfl | exact Or.inr rfl | omega) ?_
        refine ⟨rfl, ?_⟩
        try dsimp only
        unfold pe_bg
        (first
         | (have eb : b = p - 1 := by omega
            subst eb; omega)
         | (have eb : b = p - 2 := by omega
            subst eb; omega)
         | (by_cases eb : b = p - 1
            · subst eb; omega
            · by_cases eb2 : b = p - 2
              · subst eb2; omega
              · omega))
      · skip
        refine pe_aload_n d_M_begins_52 rfl ?_
        refine pe_getr f_M_7 d_M_begins_53 rfl rfl ?_
        refine pe_iload_n d_M_begins_56 rfl ?_
        refine pe_iald d_M_begins_57 rfl (by omega) (by omega) ?_
        refine pe_bipush d_M_begins_58 ?_
        refine pe_icmp_eq (t := 81) d_M_begins_60 (by first | exact hB _ _ | exact hB0 _ _ | exact hBt _ _ | exact ⟨by omega, by omega⟩) (by first | exact hB _ _ | exact hB0 _ _ | exact hBt _ _ | exact ⟨by omega, by omega⟩) (fun h60 => ?_) (fun h60 => ?_)
        · skip
          refine pe_iconst d_M_begins_81 ?_
          refine pe_goto (t := 86) d_M_begins_82 ?_
          refine pe_rz d_M_begins_86 (by first | exact Or.inl rfl | exact Or.inr rfl | omega) ?_
          refine ⟨rfl, ?_⟩
          try dsimp only
          unfold pe_bg
          (first
           | (have eb : b = p - 1 := by omega
              subst eb; omega)
           | (have eb : b = p - 2 := by omega
              subst eb; omega)
           | (by_cases eb : b = p - 1
              · subst eb; omega
              · by_cases eb2 : b = p - 2
                · subst eb2; omega
                · omega))
        · skip
          refine pe_aload_n d_M_begins_63 rfl ?_
          refine pe_getr f_M_7 d_M_begins_64 rfl rfl ?_
          refine pe_iload_n d_M_begins_67 rfl ?_
          refine pe_iald d_M_begins_68 rfl (by omega) (by omega) ?_
          refine pe_bipush d_M_begins_69 ?_
          refine pe_icmp_eq (t := 81) d_M_begins_71 (by first | exact hB _ _ | exact hB0 _ _ | exact hBt _ _ | exact ⟨by omega, by omega⟩) (by first | exact hB _ _ | exact hB0 _ _ | exact hBt _ _ | exact ⟨by omega, by omega⟩) (fun h71 => ?_) (fun h71 => ?_)
          · skip
            refine pe_iconst d_M_begins_81 ?_
            refine pe_goto (t := 86) d_M_begins_82 ?_
            refine pe_rz d_M_begins_86 (by first | exact Or.inl rfl | exact Or.inr rfl | omega) ?_
            refine ⟨rfl, ?_⟩
            try dsimp only
            unfold pe_bg
            (first
             | (have eb : b = p - 1 := by omega
                subst eb; omega)
             | (have eb : b = p - 2 := by omega
                subst eb; omega)
             | (by_cases eb : b = p - 1
                · subst eb; omega
                · by_cases eb2 : b = p - 2
                  · subst eb2; omega
                  · omega))
          · skip
            refine pe_iload_n d_M_begins_74 rfl ?_
            refine pe_iload_n d_M_begins_75 rfl ?_
            refine pe_isub d_M_begins_76 ?_
            refine pe_iconst d_M_begins_77 ?_
            refine pe_icmp_le (t := 85) d_M_begins_78 (by first | exact hB _ _ | exact hB0 _ _ | exact hBt _ _ | exact ⟨by omega, by omega⟩) (by first | exact hB _ _ | exact hB0 _ _ | exact hBt _ _ | exact ⟨by omega, by omega⟩) (fun h78 => ?_) (fun h78 => ?_)
            · skip
              refine pe_iconst d_M_begins_85 ?_
              refine pe_rz d_M_begins_86 (by first | exact Or.inl rfl | exact Or.inr rfl | omega) ?_
              refine ⟨rfl, ?_⟩
              try dsimp only
              unfold pe_bg
              (first
               | (have eb : b = p - 1 := by omega
                  subst eb; omega)
               | (have eb : b = p - 2 := by omega
                  subst eb; omega)
               | (by_cases eb : b = p - 1
                  · subst eb; omega
                  · by_cases eb2 : b = p - 2
                    · subst eb2; omega
                    · omega))
            · skip
              refine pe_iconst d_M_begins_81 ?_
              refine pe_goto (t := 86) d_M_begins_82 ?_
              refine pe_rz d_M_begins_86 (by first | exact Or.inl rfl | exact Or.inr rfl | omega) ?_
              refine ⟨rfl, ?_⟩
              try dsimp only
              unfold pe_bg
              (first
               | (have eb : b = p - 1 := by omega
                  subst eb; omega)
               | (have eb : b = p - 2 := by omega
                  subst eb; omega)
               | (by_cases eb : b = p - 1
                  · subst eb; omega
                  · by_cases eb2 : b = p - 2
                    · subst eb2; omega
                    · omega))
    · skip
      refine pe_aload_n d_M_begins_30 rfl ?_
      refine pe_getr f_M_7 d_M_begins_31 rfl rfl ?_
      refine pe_iload_n d_M_begins_34 rfl ?_
      refine pe_iald d_M_begins_35 rfl (by omega) (by omega) ?_
      refine pe_s1p d_M_begins_36 c_M_90 z_M_isMark (t_M_isMark (by first | exact hB _ _ | exact hB0 _ _ | exact hBt _ _ | exact ⟨by omega, by omega⟩)) (fun z36 hz36 => ?_)
      refine pe_if_eq (t := 48) d_M_begins_39 (by first | exact hB _ _ | exact hB0 _ _ | exact hBt _ _ | exact ⟨by omega, by omega⟩) (fun h39 => ?_) (fun h39 => ?_)
      · skip
        refine pe_iload_n d_M_begins_48 rfl ?_
        refine pe_if_lt (t := 81) d_M_begins_49 (by first | exact hB _ _ | exact hB0 _ _ | exact hBt _ _ | exact ⟨by omega, by omega⟩) (fun h49 => ?_) (fun h49 => ?_)
        · skip
          refine pe_iconst d_M_begins_81 ?_
          refine pe_goto (t := 86) d_M_begins_82 ?_
          refine pe_rz d_M_begins_86 (by first | exact Or.inl rfl | exact Or.inr rfl | omega) ?_
          refine ⟨rfl, ?_⟩
          try dsimp only
          unfold pe_bg
          (first
           | (have eb : b = p - 1 := by omega
              subst eb; omega)
           | (have eb : b = p - 2 := by omega
              subst eb; omega)
           | (by_cases eb : b = p - 1
              · subst eb; omega
              · by_cases eb2 : b = p - 2
                · subst eb2; omega
                · omega))
        · skip
          refine pe_aload_n d_M_begins_52 rfl ?_
          refine pe_getr f_M_7 d_M_begins_53 rfl rfl ?_
          refine pe_iload_n d_M_begins_56 rfl ?_
          refine pe_iald d_M_begins_57 rfl (by omega) (by omega) ?_
          refine pe_bipush d_M_begins_58 ?_
          refine pe_icmp_eq (t := 81) d_M_begins_60 (by first | exact hB _ _ | exact hB0 _ _ | exact hBt _ _ | exact ⟨by omega, by omega⟩) (by first | exact hB _ _ | exact hB0 _ _ | exact hBt _ _ | exact ⟨by omega, by omega⟩) (fun h60 => ?_) (fun h60 => ?_)
          · skip
            refine pe_iconst d_M_begins_81 ?_
            refine pe_goto (t := 86) d_M_begins_82 ?_
            refine pe_rz d_M_begins_86 (by first | exact Or.inl rfl | exact Or.inr rfl | omega) ?_
            refine ⟨rfl, ?_⟩
            try dsimp only
            unfold pe_bg
            (first
             | (have eb : b = p - 1 := by omega
                subst eb; omega)
             | (have eb : b = p - 2 := by omega
                subst eb; omega)
             | (by_cases eb : b = p - 1
                · subst eb; omega
                · by_cases eb2 : b = p - 2
                  · subst eb2; omega
                  · omega))
          · skip
            refine pe_aload_n d_M_begins_63 rfl ?_
            refine pe_getr f_M_7 d_M_begins_64 rfl rfl ?_
            refine pe_iload_n d_M_begins_67 rfl ?_
            refine pe_iald d_M_begins_68 rfl (by omega) (by omega) ?_
            refine pe_bipush d_M_begins_69 ?_
            refine pe_icmp_eq (t := 81) d_M_begins_71 (by first | exact hB _ _ | exact hB0 _ _ | exact hBt _ _ | exact ⟨by omega, by omega⟩) (by first | exact hB _ _ | exact hB0 _ _ | exact hBt _ _ | exact ⟨by omega, by omega⟩) (fun h71 => ?_) (fun h71 => ?_)
            · skip
              refine pe_iconst d_M_begins_81 ?_
              refine pe_goto (t := 86) d_M_begins_82 ?_
              refine pe_rz d_M_begins_86 (by first | exact Or.inl rfl | exact Or.inr rfl | omega) ?_
              refine ⟨rfl, ?_⟩
              try dsimp only
              unfold pe_bg
              (first
               | (have eb : b = p - 1 := by omega
                  subst eb; omega)
               | (have eb : b = p - 2 := by omega
                  subst eb; omega)
               | (by_cases eb : b = p - 1
                  · subst eb; omega
                  · by_cases eb2 : b = p - 2
                    · subst eb2; omega
                    · omega))
            · skip
              refine pe_iload_n d_M_begins_74 rfl ?_
              refine pe_iload_n d_M_begins_75 rfl ?_
              refine pe_isub d_M_begins_76 ?_
              refine pe_iconst d_M_begins_77 ?_
              refine pe_icmp_le (t := 85) d_M_begins_78 (by first | exact hB _ _ | exact hB0 _ _ | exact hBt _ _ | exact ⟨by omega, by omega⟩) (by first | exact hB _ _ | exact hB0 _ _ | exact hBt _ _ | exact ⟨by omega, by omega⟩) (fun h78 => ?_) (fun h78 => ?_)
              · skip
                refine pe_iconst d_M_begins_85 ?_
                refine pe_rz d_M_begins_86 (by first | exact Or.inl rfl | exact Or.inr rfl | omega) ?_
                refine ⟨rfl, ?_⟩
                try dsimp only
                unfold pe_bg
                (first
                 | (have eb : b = p - 1 := by omega
                    subst eb; omega)
                 | (have eb : b = p - 2 := by omega
                    subst eb; omega)
                 | (by_cases eb : b = p - 1
                    · subst eb; omega
                    · by_cases eb2 : b = p - 2
                      · subst eb2; omega
                      · omega))
              · skip
                refine pe_iconst d_M_begins_81 ?_
                refine pe_goto (t := 86) d_M_begins_82 ?_
                refine pe_rz d_M_begins_86 (by first | exact Or.inl rfl | exact Or.inr rfl | omega) ?_
                refine ⟨rfl, ?_⟩
                try dsimp only
                unfold pe_bg
                (first
                 | (have eb : b = p - 1 := by omega
                    subst eb; omega)
                 | (have eb : b = p - 2 := by omega
                    subst eb; omega)
                 | (by_cases eb : b = p - 1
                    · subst eb; omega
                    · by_cases eb2 : b = p - 2
                      · subst eb2; omega
                      · omega))
      · skip
        refine pe_iinc d_M_begins_42 rfl ?_
        refine pe_goto (t := 26) d_M_begins_45 ?_
        exact ih _ ⟨by omega, by omega, fun j h1 h2 => by (by_cases e : j = b); (rw [e]; omega); exact hI.2.2 j (by omega) h2⟩ (by omega)
  refine pe_iload_n d_M_begins_0 rfl ?_
  refine pe_aload_n d_M_begins_1 rfl ?_
  refine pe_geti f_M_87 d_M_begins_2 rfl rfl 1 rfl ?_
  refine pe_icmp_ge (t := 20) d_M_begins_5 (by first | exact hB _ _ | exact hB0 _ _ | exact hBt _ _ | exact ⟨by omega, by omega⟩) (by first | exact hB _ _ | exact hB0 _ _ | exact hBt _ _ | exact ⟨by omega, by omega⟩) (fun h5 => ?_) (fun h5 => ?_)
  · skip
    refine pe_iconst d_M_begins_20 ?_
    refine pe_rz d_M_begins_21 (by first | exact Or.inl rfl | exact Or.inr rfl | omega) ?_
    refine ⟨rfl, ?_⟩
    try dsimp only
    unfold pe_bg
    omega
  · skip
    refine pe_aload_n d_M_begins_8 rfl ?_
    refine pe_getr f_M_7 d_M_begins_9 rfl rfl ?_
    refine pe_iload_n d_M_begins_12 rfl ?_
    refine pe_iald d_M_begins_13 rfl (by omega) (by omega) ?_
    refine pe_s1p d_M_begins_14 c_M_90 z_M_isMark (t_M_isMark (by first | exact hB _ _ | exact hB0 _ _ | exact hBt _ _ | exact ⟨by omega, by omega⟩)) (fun z14 hz14 => ?_)
    refine pe_if_ne (t := 22) d_M_begins_17 (by first | exact hB _ _ | exact hB0 _ _ | exact hBt _ _ | exact ⟨by omega, by omega⟩) (fun h17 => ?_) (fun h17 => ?_)
    · skip
      refine pe_iload_n d_M_begins_22 rfl ?_
      refine pe_iconst d_M_begins_23 ?_
      refine pe_isub d_M_begins_24 ?_
      refine pe_istore_n d_M_begins_25 ?_
      exact J26 _ ⟨by omega, by omega, fun j h1 h2 => by omega⟩
    · skip
      refine pe_iconst d_M_begins_20 ?_
      refine pe_rz d_M_begins_21 (by first | exact Or.inl rfl | exact Or.inr rfl | omega) ?_
      refine ⟨rfl, ?_⟩
      try dsimp only
      unfold pe_bg
      omega
