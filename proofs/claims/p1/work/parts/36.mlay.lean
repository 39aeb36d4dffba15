/-- what the reference has laid out -/
def pe_LO (m t ra ca wa : Int → Int) : Prop := (∀ j, 0 ≤ j → j ≤ m 1 → pe_bg t (m 1) j → (0 ≤ ra j ∧ ra j ≤ 500 ∧ 0 ≤ ca j ∧ 1 ≤ wa j ∧ ca j + wa j ≤ m 21 ∧ (j < m 1 → pe_wi (t j) → wa j = 2))) ∧ (0 ≤ m 26 ∧ m 26 ≤ 500) ∧ ∀ k, 0 ≤ k → k ≤ m 26 → ∃ j, 0 ≤ j ∧ j ≤ m 1 ∧ pe_bg t (m 1) j ∧ ra j = k
theorem pe_bg0 (t : Int → Int) (n : Int) : pe_bg t n 0 := Or.inr (Or.inr (Or.inl (by omega)))
set_option maxHeartbeats 2000000 in
theorem t_M_layOut {σ : pe_H} (hB : pe_B σ) (hl : 0 ≤ σ 29 1 ∧ σ 29 1 ≤ 200) (hc : 4 ≤ σ 29 21 ∧ σ 29 21 ≤ 24) : pe_M m_M_layOut [pe_r 29] σ (pe_qv (fun σ' => pe_B σ' ∧ (∀ b, b ∉ [29, 37, 38, 39] → σ' b = σ b) ∧ (∀ j, j ∉ ([26] : List Int) → σ' 29 j = σ 29 j) ∧ pe_LO (σ' 29) (σ' 30) (σ' 37) (σ' 38) (σ' 39))) := by
  refine pe_in0 (lv := [some (pe_r 29), none, none, none, none, none]) ?_
  have hB0 := hB
  have J6 : ∀ x : Int × Int × Int × Int × pe_H, (pe_B x.2.2.2.2 ∧ (∀ b, b ∉ [29, 37, 38, 39] → x.2.2.2.2 b = σ b) ∧ (∀ j, j ∉ ([26] : List Int) → x.2.2.2.2 29 j = σ 29 j) ∧ (x.2.2.1 ≤ σ 29 1 → pe_bg (σ 30) (σ 29 1) x.2.2.1) ∧ (∀ j, 0 ≤ j → j < x.2.2.1 → pe_bg (σ 30) (σ 29 1) j → (0 ≤ x.2.2.2.2 37 j ∧ x.2.2.2.2 37 j ≤ 500 ∧ 0 ≤ x.2.2.2.2 38 j ∧ 1 ≤ x.2.2.2.2 39 j ∧ x.2.2.2.2 38 j + x.2.2.2.2 39 j ≤ σ 29 21 ∧ (j < σ 29 1 → pe_wi (σ 30 j) → x.2.2.2.2 39 j = 2))) ∧ (∀ k, 0 ≤ k → k < x.2.2.2.1 → ∃ j, 0 ≤ j ∧ j < x.2.2.1 ∧ pe_bg (σ 30) (σ 29 1) j ∧ x.2.2.2.2 37 j = k) ∧ (0 ≤ x.2.2.1 ∧ x.2.2.1 ≤ σ 29 1 + 1) ∧ ((x.1 = x.2.2.2.1 ∧ x.2.1 = 0) ∨ x.1 + 1 = x.2.2.2.1) ∧ (0 ≤ x.1 ∧ 0 ≤ x.2.2.2.1 ∧ x.2.2.2.1 ≤ x.2.2.1) ∧ (0 ≤ x.2.1 ∧ x.2.1 ≤ σ 29 21) ∧ (0 < x.2.2.2.1 → x.2.2.2.2 29 26 + 1 = x.2.2.2.1) ∧ (x.2.2.1 = 0 ∨ 0 < x.2.2.2.1)) → pe_G m_M_layOut 6 [some (pe_r 29), some (pe_i x.1), some (pe_i x.2.1), some (pe_i x.2.2.1), none, none] [] x.2.2.2.2 (pe_qv (fun σ' => pe_B σ' ∧ (∀ b, b ∉ [29, 37, 38, 39] → σ' b = σ b) ∧ (∀ j, j ∉ ([26] : List Int) → σ' 29 j = σ 29 j) ∧ pe_LO (σ' 29) (σ' 30) (σ' 37) (σ' 38) (σ' 39))) := by
    refine pe_loop (fun x : Int × Int × Int × Int × pe_H => (300 - x.2.2.1).toNat) _ _ ?_
    intro x hI ih
    obtain ⟨r, c, p, R, τ⟩ := x
    dsimp only at hI ⊢
    obtain ⟨hB, hfr, hX⟩ := hI
    obtain ⟨hor, hbp, hgd, hcv, hX⟩ := hX
    have w1 : τ 29 1 = σ 29 1 := hor 1 (by decide)
    have w21 : τ 29 21 = σ 29 21 := hor 21 (by decide)
    have w30 : τ 30 = σ 30 := hfr 30 (by decide)
    have hBt := hB
    have J51 : ∀ x : Int × Int × Int, ((p ≤ σ 29 1) ∧ (x.1 = R ∨ x.1 + 1 = R) ∧ 0 ≤ x.1 ∧ (0 ≤ x.2.1 ∧ 1 ≤ x.2.2 ∧ x.2.1 + x.2.2 ≤ σ 29 21) ∧ (p < σ 29 1 → pe_wi (σ 30 p) → x.2.2 = 2)) → pe_G m_M_layOut 51 [some (pe_r 29), some (pe_i x.1), some (pe_i x.2.1), some (pe_i p), some (pe_i x.2.2), none] [] τ (pe_qv (fun σ' => pe_B σ' ∧ (∀ b, b ∉ [29, 37, 38, 39] → σ' b = σ b) ∧ (∀ j, j ∉ ([26] : List Int) → σ' 29 j = σ 29 j) ∧ pe_LO (σ' 29) (σ' 30) (σ' 37) (σ' 38) (σ' 39))) := by
      intro x hI
      obtain ⟨r2, c2, w2⟩ := x
      dsimp only at hI ⊢
      obtain ⟨hpl, hr2, hr3, hcw, hwi⟩ := hI
      have hbp := hbp hpl
      have hBt := hB
      have hBt := hB
      refine pe_aload_n d_M_layOut_51 rfl ?_
      refine pe_getr f_M_41 d_M_layOut_52 rfl rfl ?_
      refine pe_iload_n d_M_layOut_55 rfl ?_
      refine pe_iload_n d_M_layOut_56 rfl ?_
      refine pe_iastT d_M_layOut_57 rfl (by omega) (by omega) hB (by first | exact hB _ _ | exact hB0 _ _ | exact hBt _ _ | exact ⟨by omega, by omega⟩) (fun σ57 hB e57 o57 f57 => ?_)
      try have u57_0 : σ57 29 1 = τ 29 1 := by first | exact o57 1 (by decide) | exact congrFun (f57 29 (by decide)) 1
      try have u57_1 : σ57 29 21 = τ 29 21 := by first | exact o57 21 (by decide) | exact congrFun (f57 29 (by decide)) 21
      try have u57_2 : σ57 29 26 = τ 29 26 := by first | exact o57 26 (by decide) | exact congrFun (f57 29 (by decide)) 26
      refine pe_aload_n d_M_layOut_58 rfl ?_
      refine pe_getr f_M_44 d_M_layOut_59 rfl rfl ?_
      refine pe_iload_n d_M_layOut_62 rfl ?_
      refine pe_iload_n d_M_layOut_63 rfl ?_
      refine pe_iastT d_M_layOut_64 rfl (by omega) (by omega) hB (by first | exact hB _ _ | exact hB0 _ _ | exact hBt _ _ | exact ⟨by omega, by omega⟩) (fun σ64 hB e64 o64 f64 => ?_)
      try have u64_0 : σ64 29 1 = σ57 29 1 := by first | exact o64 1 (by decide) | exact congrFun (f64 29 (by decide)) 1
      try have u64_1 : σ64 29 21 = σ57 29 21 := by first | exact o64 21 (by decide) | exact congrFun (f64 29 (by decide)) 21
      try have u64_2 : σ64 29 26 = σ57 29 26 := by first | exact o64 26 (by decide) | exact congrFun (f64 29 (by decide)) 26
      refine pe_aload_n d_M_layOut_65 rfl ?_
      refine pe_getr f_M_47 d_M_layOut_66 rfl rfl ?_
      refine pe_iload_n d_M_layOut_69 rfl ?_
      refine pe_iload d_M_layOut_70 rfl ?_
      refine pe_iastT d_M_layOut_72 rfl (by omega) (by omega) hB (by first | exact hB _ _ | exact hB0 _ _ | exact hBt _ _ | exact ⟨by omega, by omega⟩) (fun σ72 hB e72 o72 f72 => ?_)
      try have u72_0 : σ72 29 1 = σ64 29 1 := by first | exact o72 1 (by decide) | exact congrFun (f72 29 (by decide)) 1
      try have u72_1 : σ72 29 21 = σ64 29 21 := by first | exact o72 21 (by decide) | exact congrFun (f72 29 (by decide)) 21
      try have u72_2 : σ72 29 26 = σ64 29 26 := by first | exact o72 26 (by decide) | exact congrFun (f72 29 (by decide)) 26
      refine pe_aload_n d_M_layOut_73 rfl ?_
      refine pe_iload_n d_M_layOut_74 rfl ?_
      refine pe_putiT f_M_104 g_11_26 d_M_layOut_75 rfl rfl 26 rfl hB (by first | exact hB _ _ | exact hB0 _ _ | exact hBt _ _ | exact ⟨by omega, by omega⟩) (fun σ75 hB e75 o75 f75 => ?_)
      try have u75_0 : σ75 29 1 = σ72 29 1 := by first | exact o75 1 (by decide) | exact congrFun (f75 29 (by decide)) 1
      try have u75_1 : σ75 29 21 = σ72 29 21 := by first | exact o75 21 (by decide) | exact congrFun (f75 29 (by decide)) 21
      try have u75_2 : σ75 29 26 = σ72 29 26 := by first | exact o75 26 (by decide) | exact congrFun (f75 29 (by decide)) 26
      refine pe_iload_n d_M_layOut_78 rfl ?_
      refine pe_aload_n d_M_layOut_79 rfl ?_
      refine pe_geti f_M_87 d_M_layOut_80 rfl rfl 1 rfl ?_
      refine pe_icmp_ge (t := 101) d_M_layOut_83 (by first | exact hB _ _ | exact hB0 _ _ | exact hBt _ _ | exact ⟨by omega, by omega⟩) (by first | exact hB _ _ | exact hB0 _ _ | exact hBt _ _ | exact ⟨by omega, by omega⟩) (fun h83 => ?_) (fun h83 => ?_)
      · skip
        refine pe_iconst d_M_layOut_101 ?_
        refine pe_istore d_M_layOut_102 ?_
        refine pe_iload d_M_layOut_104 rfl ?_
        refine pe_if_eq (t := 113) d_M_layOut_106 (by first | exact hB _ _ | exact hB0 _ _ | exact hBt _ _ | exact ⟨by omega, by omega⟩) (fun h106 => ?_) (fun h106 => ?_)
        · skip
          refine pe_iload_n d_M_layOut_113 rfl ?_
          refine pe_iload d_M_layOut_114 rfl ?_
          refine pe_iadd d_M_layOut_116 ?_
          refine pe_istore_n d_M_layOut_117 ?_
          refine pe_iload d_M_layOut_118 rfl ?_
          refine pe_if_eq (t := 129) d_M_layOut_120 (by first | exact hB _ _ | exact hB0 _ _ | exact hBt _ _ | exact ⟨by omega, by omega⟩) (fun h120 => ?_) (fun h120 => ?_)
          · skip
            refine pe_iload_n d_M_layOut_129 rfl ?_
            refine pe_istore_n d_M_layOut_130 ?_
            have P37 : σ75 37 = σ57 37 := (f75 37 (by decide)).trans ((f72 37 (by decide)).trans (f64 37 (by decide)))
            have P38 : σ75 38 = σ64 38 := (f75 38 (by decide)).trans (f72 38 (by decide))
            have P39 : σ75 39 = σ72 39 := f75 39 (by decide)
            have Q38 : σ57 38 = τ 38 := f57 38 (by decide)
            have Q39 : σ64 39 = τ 39 := (f64 39 (by decide)).trans (f57 39 (by decide))
            have hgd2 : ∀ j, 0 ≤ j → j ≤ p → pe_bg (σ 30) (σ 29 1) j → (0 ≤ σ75 37 j ∧ σ75 37 j ≤ 500 ∧ 0 ≤ σ75 38 j ∧ 1 ≤ σ75 39 j ∧ σ75 38 j + σ75 39 j ≤ σ 29 21 ∧ (j < σ 29 1 → pe_wi (σ 30 j) → σ75 39 j = 2)) := by
              intro j h1 h2 hb
              by_cases e : j = p
              · subst e; rw [P37, P38, P39, e57, e64, e72]; exact ⟨by omega, by omega, by omega, by omega, by omega, hwi⟩
              · have q := hgd j h1 (by omega) hb
                rw [P37, P38, P39, o57 j e, o64 j e, o72 j e, Q38, Q39]; exact q
            have hcv2 : ∀ k, 0 ≤ k → k < r2 + 1 → ∃ j, 0 ≤ j ∧ j ≤ p ∧ pe_bg (σ 30) (σ 29 1) j ∧ σ75 37 j = k := by
              intro k h1 h2
              by_cases e : k < R
              · obtain ⟨j, a1, a2, a3, a4⟩ := hcv k h1 e
                exact ⟨j, a1, by omega, a3, by rw [P37, o57 j (by omega)]; exact a4⟩
              · exact ⟨p, by omega, by omega, hbp, by rw [P37, e57]; omega⟩
            refine pe_iload_n d_M_layOut_131 rfl ?_
            refine pe_aload_n d_M_layOut_132 rfl ?_
            refine pe_geti f_M_87 d_M_layOut_133 rfl rfl 1 rfl ?_
            refine pe_icmp_ne (t := 145) d_M_layOut_136 (by first | exact hB _ _ | exact hB0 _ _ | exact hBt _ _ | exact ⟨by omega, by omega⟩) (by first | exact hB _ _ | exact hB0 _ _ | exact hBt _ _ | exact ⟨by omega, by omega⟩) (fun h136 => ?_) (fun h136 => ?_)
            · skip
              refine pe_aload_n d_M_layOut_145 rfl ?_
              refine pe_iload_n d_M_layOut_146 rfl ?_
              refine pe_v1p d_M_layOut_147 c_M_107 i_M_after s_M_after rfl rfl (t_M_after hB (by omega) (by omega)) (fun z147 hz147 => ?_)
              have w30b : σ75 30 = σ 30 := ((f75 30 (by decide)).trans ((f72 30 (by decide)).trans ((f64 30 (by decide)).trans ((f57 30 (by decide)).trans (hfr 30 (by decide))))))
              have w1b : σ75 29 1 = σ 29 1 := by omega
              refine pe_istore_n d_M_layOut_150 ?_
              refine pe_goto (t := 6) d_M_layOut_151 ?_
              (first
              | (refine pe_drop 4 (pe_drop 5 ?_); exact ih (_, _, _, r2 + 1, _) ⟨hB, (fun b hb => (f75 b (by simp at hb ⊢; try omega)).trans ((f72 b (by simp at hb ⊢; try omega)).trans ((f64 b (by simp at hb ⊢; try omega)).trans ((f57 b (by simp at hb ⊢; try omega)).trans (hfr b (by simp at hb ⊢; try omega)))))), (fun j hj => (o75 j (by simp at hj ⊢; try omega)).trans ((congrFun (f72 29 (by decide)) j).trans ((congrFun (f64 29 (by decide)) j).trans ((congrFun (f57 29 (by decide)) j).trans (hor j (by simp at hj ⊢; try omega)))))), fun q => by (try dsimp only at q); omega, fun j h1 h2 hb => hgd2 j h1 (by (try dsimp only at *); omega) hb, fun k h1 h2 => by (try dsimp only at *); (obtain ⟨j, a1, a2, a3, a4⟩ := hcv2 k h1 h2); exact ⟨j, a1, by omega, a3, a4⟩, by (try dsimp only); omega⟩ (by (try dsimp only); omega))
              | (refine pe_drop 4 (pe_drop 5 ?_); exact ih (_, _, _, r2 + 1, _) ⟨hB, (fun b hb => (f75 b (by simp at hb ⊢; try omega)).trans ((f72 b (by simp at hb ⊢; try omega)).trans ((f64 b (by simp at hb ⊢; try omega)).trans ((f57 b (by simp at hb ⊢; try omega)).trans (hfr b (by simp at hb ⊢; try omega)))))), (fun j hj => (o75 j (by simp at hj ⊢; try omega)).trans ((congrFun (f72 29 (by decide)) j).trans ((congrFun (f64 29 (by decide)) j).trans ((congrFun (f57 29 (by decide)) j).trans (hor j (by simp at hj ⊢; try omega)))))), fun q => by rw [w30b, w1b] at hz147; exact hz147.2.1, fun j h1 h2 hb => hgd2 j h1 (by (try dsimp only at *); (by_cases e : j ≤ p); exact e; exact absurd hb (by rw [w30b, w1b] at hz147; exact hz147.2.2 j (by omega) h2)) hb, fun k h1 h2 => by (try dsimp only at *); (obtain ⟨j, a1, a2, a3, a4⟩ := hcv2 k h1 h2); exact ⟨j, a1, by omega, a3, a4⟩, by (try dsimp only); omega⟩ (by (try dsimp only); omega)))
            · skip
              refine pe_iload_n d_M_layOut_139 rfl ?_
              refine pe_iconst d_M_layOut_140 ?_
              refine pe_iadd d_M_layOut_141 ?_
              refine pe_goto (t := 150) d_M_layOut_142 ?_
              have w30b : σ75 30 = σ 30 := ((f75 30 (by decide)).trans ((f72 30 (by decide)).trans ((f64 30 (by decide)).trans ((f57 30 (by decide)).trans (hfr 30 (by decide))))))
              have w1b : σ75 29 1 = σ 29 1 := by omega
              refine pe_istore_n d_M_layOut_150 ?_
              refine pe_goto (t := 6) d_M_layOut_151 ?_
              (first
              | (refine pe_drop 4 (pe_drop 5 ?_); exact ih (_, _, _, r2 + 1, _) ⟨hB, (fun b hb => (f75 b (by simp at hb ⊢; try omega)).trans ((f72 b (by simp at hb ⊢; try omega)).trans ((f64 b (by simp at hb ⊢; try omega)).trans ((f57 b (by simp at hb ⊢; try omega)).trans (hfr b (by simp at hb ⊢; try omega)))))), (fun j hj => (o75 j (by simp at hj ⊢; try omega)).trans ((congrFun (f72 29 (by decide)) j).trans ((congrFun (f64 29 (by decide)) j).trans ((congrFun (f57 29 (by decide)) j).trans (hor j (by simp at hj ⊢; try omega)))))), fun q => by (try dsimp only at q); omega, fun j h1 h2 hb => hgd2 j h1 (by (try dsimp only at *); omega) hb, fun k h1 h2 => by (try dsimp only at *); (obtain ⟨j, a1, a2, a3, a4⟩ := hcv2 k h1 h2); exact ⟨j, a1, by omega, a3, a4⟩, by (try dsimp only); omega⟩ (by (try dsimp only); omega))
              | (refine pe_drop 4 (pe_drop 5 ?_); exact ih (_, _, _, r2 + 1, _) ⟨hB, (fun b hb => (f75 b (by simp at hb ⊢; try omega)).trans ((f72 b (by simp at hb ⊢; try omega)).trans ((f64 b (by simp at hb ⊢; try omega)).trans ((f57 b (by simp at hb ⊢; try omega)).trans (hfr b (by simp at hb ⊢; try omega)))))), (fun j hj => (o75 j (by simp at hj ⊢; try omega)).trans ((congrFun (f72 29 (by decide)) j).trans ((congrFun (f64 29 (by decide)) j).trans ((congrFun (f57 29 (by decide)) j).trans (hor j (by simp at hj ⊢; try omega)))))), fun q => by rw [w30b, w1b] at hz147; exact hz147.2.1, fun j h1 h2 hb => hgd2 j h1 (by (try dsimp only at *); (by_cases e : j ≤ p); exact e; exact absurd hb (by rw [w30b, w1b] at hz147; exact hz147.2.2 j (by omega) h2)) hb, fun k h1 h2 => by (try dsimp only at *); (obtain ⟨j, a1, a2, a3, a4⟩ := hcv2 k h1 h2); exact ⟨j, a1, by omega, a3, a4⟩, by (try dsimp only); omega⟩ (by (try dsimp only); omega)))
          · skip
            refine pe_iload_n d_M_layOut_123 rfl ?_
            refine pe_iconst d_M_layOut_124 ?_
            refine pe_iadd d_M_layOut_125 ?_
            refine pe_goto (t := 130) d_M_layOut_126 ?_
            refine pe_istore_n d_M_layOut_130 ?_
            have P37 : σ75 37 = σ57 37 := (f75 37 (by decide)).trans ((f72 37 (by decide)).trans (f64 37 (by decide)))
            have P38 : σ75 38 = σ64 38 := (f75 38 (by decide)).trans (f72 38 (by decide))
            have P39 : σ75 39 = σ72 39 := f75 39 (by decide)
            have Q38 : σ57 38 = τ 38 := f57 38 (by decide)
            have Q39 : σ64 39 = τ 39 := (f64 39 (by decide)).trans (f57 39 (by decide))
            have hgd2 : ∀ j, 0 ≤ j → j ≤ p → pe_bg (σ 30) (σ 29 1) j → (0 ≤ σ75 37 j ∧ σ75 37 j ≤ 500 ∧ 0 ≤ σ75 38 j ∧ 1 ≤ σ75 39 j ∧ σ75 38 j + σ75 39 j ≤ σ 29 21 ∧ (j < σ 29 1 → pe_wi (σ 30 j) → σ75 39 j = 2)) := by
              intro j h1 h2 hb
              by_cases e : j = p
              · subst e; rw [P37, P38, P39, e57, e64, e72]; exact ⟨by omega, by omega, by omega, by omega, by omega, hwi⟩
              · have q := hgd j h1 (by omega) hb
                rw [P37, P38, P39, o57 j e, o64 j e, o72 j e, Q38, Q39]; exact q
            have hcv2 : ∀ k, 0 ≤ k → k < r2 + 1 → ∃ j, 0 ≤ j ∧ j ≤ p ∧ pe_bg (σ 30) (σ 29 1) j ∧ σ75 37 j = k := by
              intro k h1 h2
              by_cases e : k < R
              · obtain ⟨j, a1, a2, a3, a4⟩ := hcv k h1 e
                exact ⟨j, a1, by omega, a3, by rw [P37, o57 j (by omega)]; exact a4⟩
              · exact ⟨p, by omega, by omega, hbp, by rw [P37, e57]; omega⟩
            refine pe_iload_n d_M_layOut_131 rfl ?_
            refine pe_aload_n d_M_layOut_132 rfl ?_
            refine pe_geti f_M_87 d_M_layOut_133 rfl rfl 1 rfl ?_
            refine pe_icmp_ne (t := 145) d_M_layOut_136 (by first | exact hB _ _ | exact hB0 _ _ | exact hBt _ _ | exact ⟨by omega, by omega⟩) (by first | exact hB _ _ | exact hB0 _ _ | exact hBt _ _ | exact ⟨by omega, by omega⟩) (fun h136 => ?_) (fun h136 => ?_)
            · skip
              refine pe_aload_n d_M_layOut_145 rfl ?_
              refine pe_iload_n d_M_layOut_146 rfl ?_
              refine pe_v1p d_M_layOut_147 c_M_107 i_M_after s_M_after rfl rfl (t_M_after hB (by omega) (by omega)) (fun z147 hz147 => ?_)
              have w30b : σ75 30 = σ 30 := ((f75 30 (by decide)).trans ((f72 30 (by decide)).trans ((f64 30 (by decide)).trans ((f57 30 (by decide)).trans (hfr 30 (by decide))))))
              have w1b : σ75 29 1 = σ 29 1 := by omega
              refine pe_istore_n d_M_layOut_150 ?_
              refine pe_goto (t := 6) d_M_layOut_151 ?_
              (first
              | (refine pe_drop 4 (pe_drop 5 ?_); exact ih (_, _, _, r2 + 1, _) ⟨hB, (fun b hb => (f75 b (by simp at hb ⊢; try omega)).trans ((f72 b (by simp at hb ⊢; try omega)).trans ((f64 b (by simp at hb ⊢; try omega)).trans ((f57 b (by simp at hb ⊢; try omega)).trans (hfr b (by simp at hb ⊢; try omega)))))), (fun j hj => (o75 j (by simp at hj ⊢; try omega)).trans ((congrFun (f72 29 (by decide)) j).trans ((congrFun (f64 29 (by decide)) j).trans ((congrFun (f57 29 (by decide)) j).trans (hor j (by simp at hj ⊢; try omega)))))), fun q => by (try dsimp only at q); omega, fun j h1 h2 hb => hgd2 j h1 (by (try dsimp only at *); omega) hb, fun k h1 h2 => by (try dsimp only at *); (obtain ⟨j, a1, a2, a3, a4⟩ := hcv2 k h1 h2); exact ⟨j, a1, by omega, a3, a4⟩, by (try dsimp only); omega⟩ (by (try dsimp only); omega))
              | (refine pe_drop 4 (pe_drop 5 ?_); exact ih (_, _, _, r2 + 1, _) ⟨hB, (fun b hb => (f75 b (by simp at hb ⊢; try omega)).trans ((f72 b (by simp at hb ⊢; try omega)).trans ((f64 b (by simp at hb ⊢; try omega)).trans ((f57 b (by simp at hb ⊢; try omega)).trans (hfr b (by simp at hb ⊢; try omega)))))), (fun j hj => (o75 j (by simp at hj ⊢; try omega)).trans ((congrFun (f72 29 (by decide)) j).trans ((congrFun (f64 29 (by decide)) j).trans ((congrFun (f57 29 (by decide)) j).trans (hor j (by simp at hj ⊢; try omega)))))), fun q => by rw [w30b, w1b] at hz147; exact hz147.2.1, fun j h1 h2 hb => hgd2 j h1 (by (try dsimp only at *); (by_cases e : j ≤ p); exact e; exact absurd hb (by rw [w30b, w1b] at hz147; exact hz147.2.2 j (by omega) h2)) hb, fun k h1 h2 => by (try dsimp only at *); (obtain ⟨j, a1, a2, a3, a4⟩ := hcv2 k h1 h2); exact ⟨j, a1, by omega, a3, a4⟩, by (try dsimp only); omega⟩ (by (try dsimp only); omega)))
            · skip
              refine pe_iload_n d_M_layOut_139 rfl ?_
              refine pe_iconst d_M_layOut_140 ?_
              refine pe_iadd d_M_layOut_141 ?_
              refine pe_goto (t := 150) d_M_layOut_142 ?_
              have w30b : σ75 30 = σ 30 := ((f75 30 (by decide)).trans ((f72 30 (by decide)).trans ((f64 30 (by decide)).trans ((f57 30 (by decide)).trans (hfr 30 (by decide))))))
              have w1b : σ75 29 1 = σ 29 1 := by omega
              refine pe_istore_n d_M_layOut_150 ?_
              refine pe_goto (t := 6) d_M_layOut_151 ?_
              (first
              | (refine pe_drop 4 (pe_drop 5 ?_); exact ih (_, _, _, r2 + 1, _) ⟨hB, (fun b hb => (f75 b (by simp at hb ⊢; try omega)).trans ((f72 b (by simp at hb ⊢; try omega)).trans ((f64 b (by simp at hb ⊢; try omega)).trans ((f57 b (by simp at hb ⊢; try omega)).trans (hfr b (by simp at hb ⊢; try omega)))))), (fun j hj => (o75 j (by simp at hj ⊢; try omega)).trans ((congrFun (f72 29 (by decide)) j).trans ((congrFun (f64 29 (by decide)) j).trans ((congrFun (f57 29 (by decide)) j).trans (hor j (by simp at hj ⊢; try omega)))))), fun q => by (try dsimp only at q); omega, fun j h1 h2 hb => hgd2 j h1 (by (try dsimp only at *); omega) hb, fun k h1 h2 => by (try dsimp only at *); (obtain ⟨j, a1, a2, a3, a4⟩ := hcv2 k h1 h2); exact ⟨j, a1, by omega, a3, a4⟩, by (try dsimp only); omega⟩ (by (try dsimp only); omega))
              | (refine pe_drop 4 (pe_drop 5 ?_); exact ih (_, _, _, r2 + 1, _) ⟨hB, (fun b hb => (f75 b (by simp at hb ⊢; try omega)).trans ((f72 b (by simp at hb ⊢; try omega)).trans ((f64 b (by simp at hb ⊢; try omega)).trans ((f57 b (by simp at hb ⊢; try omega)).trans (hfr b (by simp at hb ⊢; try omega)))))), (fun j hj => (o75 j (by simp at hj ⊢; try omega)).trans ((congrFun (f72 29 (by decide)) j).trans ((congrFun (f64 29 (by decide)) j).trans ((congrFun (f57 29 (by decide)) j).trans (hor j (by simp at hj ⊢; try omega)))))), fun q => by rw [w30b, w1b] at hz147; exact hz147.2.1, fun j h1 h2 hb => hgd2 j h1 (by (try dsimp only at *); (by_cases e : j ≤ p); exact e; exact absurd hb (by rw [w30b, w1b] at hz147; exact hz147.2.2 j (by omega) h2)) hb, fun k h1 h2 => by (try dsimp only at *); (obtain ⟨j, a1, a2, a3, a4⟩ := hcv2 k h1 h2); exact ⟨j, a1, by omega, a3, a4⟩, by (try dsimp only); omega⟩ (by (try dsimp only); omega)))
        · skip
          refine pe_iconst d_M_layOut_109 ?_
          refine pe_goto (t := 117) d_M_layOut_110 ?_
          refine pe_istore_n d_M_layOut_117 ?_
          refine pe_iload d_M_layOut_118 rfl ?_
          refine pe_if_eq (t := 129) d_M_layOut_120 (by first | exact hB _ _ | exact hB0 _ _ | exact hBt _ _ | exact ⟨by omega, by omega⟩) (fun h120 => ?_) (fun h120 => ?_)
          · skip
            refine pe_iload_n d_M_layOut_129 rfl ?_
            refine pe_istore_n d_M_layOut_130 ?_
            have P37 : σ75 37 = σ57 37 := (f75 37 (by decide)).trans ((f72 37 (by decide)).trans (f64 37 (by decide)))
            have P38 : σ75 38 = σ64 38 := (f75 38 (by decide)).trans (f72 38 (by decide))
            have P39 : σ75 39 = σ72 39 := f75 39 (by decide)
            have Q38 : σ57 38 = τ 38 := f57 38 (by decide)
            have Q39 : σ64 39 = τ 39 := (f64 39 (by decide)).trans (f57 39 (by decide))
            have hgd2 : ∀ j, 0 ≤ j → j ≤ p → pe_bg (σ 30) (σ 29 1) j → (0 ≤ σ75 37 j ∧ σ75 37 j ≤ 500 ∧ 0 ≤ σ75 38 j ∧ 1 ≤ σ75 39 j ∧ σ75 38 j + σ75 39 j ≤ σ 29 21 ∧ (j < σ 29 1 → pe_wi (σ 30 j) → σ75 39 j = 2)) := by
              intro j h1 h2 hb
              by_cases e : j = p
              · subst e; rw [P37, P38, P39, e57, e64, e72]; exact ⟨by omega, by omega, by omega, by omega, by omega, hwi⟩
              · have q := hgd j h1 (by omega) hb
                rw [P37, P38, P39, o57 j e, o64 j e, o72 j e, Q38, Q39]; exact q
            have hcv2 : ∀ k, 0 ≤ k → k < r2 + 1 → ∃ j, 0 ≤ j ∧ j ≤ p ∧ pe_bg (σ 30) (σ 29 1) j ∧ σ75 37 j = k := by
              intro k h1 h2
              by_cases e : k < R
              · obtain ⟨j, a1, a2, a3, a4⟩ := hcv k h1 e
                exact ⟨j, a1, by omega, a3, by rw [P37, o57 j (by omega)]; exact a4⟩
              · exact ⟨p, by omega, by omega, hbp, by rw [P37, e57]; omega⟩
            refine pe_iload_n d_M_layOut_131 rfl ?_
            refine pe_aload_n d_M_layOut_132 rfl ?_
            refine pe_geti f_M_87 d_M_layOut_133 rfl rfl 1 rfl ?_
            refine pe_icmp_ne (t := 145) d_M_layOut_136 (by first | exact hB _ _ | exact hB0 _ _ | exact hBt _ _ | exact ⟨by omega, by omega⟩) (by first | exact hB _ _ | exact hB0 _ _ | exact hBt _ _ | exact ⟨by omega, by omega⟩) (fun h136 => ?_) (fun h136 => ?_)
            · skip
              refine pe_aload_n d_M_layOut_145 rfl ?_
              refine pe_iload_n d_M_layOut_146 rfl ?_
              refine pe_v1p d_M_layOut_147 c_M_107 i_M_after s_M_after rfl rfl (t_M_after hB (by omega) (by omega)) (fun z147 hz147 => ?_)
              have w30b : σ75 30 = σ 30 := ((f75 30 (by decide)).trans ((f72 30 (by decide)).trans ((f64 30 (by decide)).trans ((f57 30 (by decide)).trans (hfr 30 (by decide))))))
              have w1b : σ75 29 1 = σ 29 1 := by omega
              refine pe_istore_n d_M_layOut_150 ?_
              refine pe_goto (t := 6) d_M_layOut_151 ?_
              (first
              | (refine pe_drop 4 (pe_drop 5 ?_); exact ih (_, _, _, r2 + 1, _) ⟨hB, (fun b hb => (f75 b (by simp at hb ⊢; try omega)).trans ((f72 b (by simp at hb ⊢; try omega)).trans ((f64 b (by simp at hb ⊢; try omega)).trans ((f57 b (by simp at hb ⊢; try omega)).trans (hfr b (by simp at hb ⊢; try omega)))))), (fun j hj => (o75 j (by simp at hj ⊢; try omega)).trans ((congrFun (f72 29 (by decide)) j).trans ((congrFun (f64 29 (by decide)) j).trans ((congrFun (f57 29 (by decide)) j).trans (hor j (by simp at hj ⊢; try omega)))))), fun q => by (try dsimp only at q); omega, fun j h1 h2 hb => hgd2 j h1 (by (try dsimp only at *); omega) hb, fun k h1 h2 => by (try dsimp only at *); (obtain ⟨j, a1, a2, a3, a4⟩ := hcv2 k h1 h2); exact ⟨j, a1, by omega, a3, a4⟩, by (try dsimp only); omega⟩ (by (try dsimp only); omega))
              | (refine pe_drop 4 (pe_drop 5 ?_); exact ih (_, _, _, r2 + 1, _) ⟨hB, (fun b hb => (f75 b (by simp at hb ⊢; try omega)).trans ((f72 b (by simp at hb ⊢; try omega)).trans ((f64 b (by simp at hb ⊢; try omega)).trans ((f57 b (by simp at hb ⊢; try omega)).trans (hfr b (by simp at hb ⊢; try omega)))))), (fun j hj => (o75 j (by simp at hj ⊢; try omega)).trans ((congrFun (f72 29 (by decide)) j).trans ((congrFun (f64 29 (by decide)) j).trans ((congrFun (f57 29 (by decide)) j).trans (hor j (by simp at hj ⊢; try omega)))))), fun q => by rw [w30b, w1b] at hz147; exact hz147.2.1, fun j h1 h2 hb => hgd2 j h1 (by (try dsimp only at *); (by_cases e : j ≤ p); exact e; exact absurd hb (by rw [w30b, w1b] at hz147; exact hz147.2.2 j (by omega) h2)) hb, fun k h1 h2 => by (try dsimp only at *); (obtain ⟨j, a1, a2, a3, a4⟩ := hcv2 k h1 h2); exact ⟨j, a1, by omega, a3, a4⟩, by (try dsimp only); omega⟩ (by (try dsimp only); omega)))
            · skip
              refine pe_iload_n d_M_layOut_139 rfl ?_
              refine pe_iconst d_M_layOut_140 ?_
              refine pe_iadd d_M_layOut_141 ?_
              refine pe_goto (t := 150) d_M_layOut_142 ?_
              have w30b : σ75 30 = σ 30 := ((f75 30 (by decide)).trans ((f72 30 (by decide)).trans ((f64 30 (by decide)).trans ((f57 30 (by decide)).trans (hfr 30 (by decide))))))
              have w1b : σ75 29 1 = σ 29 1 := by omega
              refine pe_istore_n d_M_layOut_150 ?_
              refine pe_goto (t := 6) d_M_layOut_151 ?_
              (first
              | (refine pe_drop 4 (pe_drop 5 ?_); exact ih (_, _, _, r2 + 1, _) ⟨hB, (fun b hb => (f75 b (by simp at hb ⊢; try omega)).trans ((f72 b (by simp at hb ⊢; try omega)).trans ((f64 b (by simp at hb ⊢; try omega)).trans ((f57 b (by simp at hb ⊢; try omega)).trans (hfr b (by simp at hb ⊢; try omega)))))), (fun j hj => (o75 j (by simp at hj ⊢; try omega)).trans ((congrFun (f72 29 (by decide)) j).trans ((congrFun (f64 29 (by decide)) j).trans ((congrFun (f57 29 (by decide)) j).trans (hor j (by simp at hj ⊢; try omega)))))), fun q => by (try dsimp only at q); omega, fun j h1 h2 hb => hgd2 j h1 (by (try dsimp only at *); omega) hb, fun k h1 h2 => by (try dsimp only at *); (obtain ⟨j, a1, a2, a3, a4⟩ := hcv2 k h1 h2); exact ⟨j, a1, by omega, a3, a4⟩, by (try dsimp only); omega⟩ (by (try dsimp only); omega))
              | (refine pe_drop 4 (pe_drop 5 ?_); exact ih (_, _, _, r2 + 1, _) ⟨hB, (fun b hb => (f75 b (by simp at hb ⊢; try omega)).trans ((f72 b (by simp at hb ⊢; try omega)).trans ((f64 b (by simp at hb ⊢; try omega)).trans ((f57 b (by simp at hb ⊢; try omega)).trans (hfr b (by simp at hb ⊢; try omega)))))), (fun j hj => (o75 j (by simp at hj ⊢; try omega)).trans ((congrFun (f72 29 (by decide)) j).trans ((congrFun (f64 29 (by decide)) j).trans ((congrFun (f57 29 (by decide)) j).trans (hor j (by simp at hj ⊢; try omega)))))), fun q => by rw [w30b, w1b] at hz147; exact hz147.2.1, fun j h1 h2 hb => hgd2 j h1 (by (try dsimp only at *); (by_cases e : j ≤ p); exact e; exact absurd hb (by rw [w30b, w1b] at hz147; exact hz147.2.2 j (by omega) h2)) hb, fun k h1 h2 => by (try dsimp only at *); (obtain ⟨j, a1, a2, a3, a4⟩ := hcv2 k h1 h2); exact ⟨j, a1, by omega, a3, a4⟩, by (try dsimp only); omega⟩ (by (try dsimp only); omega)))
          · skip
            refine pe_iload_n d_M_layOut_123 rfl ?_
            refine pe_iconst d_M_layOut_124 ?_
            refine pe_iadd d_M_layOut_125 ?_
            refine pe_goto (t := 130) d_M_layOut_126 ?_
            refine pe_istore_n d_M_layOut_130 ?_
            have P37 : σ75 37 = σ57 37 := (f75 37 (by decide)).trans ((f72 37 (by decide)).trans (f64 37 (by decide)))
            have P38 : σ75 38 = σ64 38 := (f75 38 (by decide)).trans (f72 38 (by decide))
            have P39 : σ75 39 = σ72 39 := f75 39 (by decide)
            have Q38 : σ57 38 = τ 38 := f57 38 (by decide)
            have Q39 : σ64 39 = τ 39 := (f64 39 (by decide)).trans (f57 39 (by decide))
            have hgd2 : ∀ j, 0 ≤ j → j ≤ p → pe_bg (σ 30) (σ 29 1) j → (0 ≤ σ75 37 j ∧ σ75 37 j ≤ 500 ∧ 0 ≤ σ75 38 j ∧ 1 ≤ σ75 39 j ∧ σ75 38 j + σ75 39 j ≤ σ 29 21 ∧ (j < σ 29 1 → pe_wi (σ 30 j) → σ75 39 j = 2)) := by
              intro j h1 h2 hb
              by_cases e : j = p
              · subst e; rw [P37, P38, P39, e57, e64, e72]; exact ⟨by omega, by omega, by omega, by omega, by omega, hwi⟩
              · have q := hgd j h1 (by omega) hb
                rw [P37, P38, P39, o57 j e, o64 j e, o72 j e, Q38, Q39]; exact q
            have hcv2 : ∀ k, 0 ≤ k → k < r2 + 1 → ∃ j, 0 ≤ j ∧ j ≤ p ∧ pe_bg (σ 30) (σ 29 1) j ∧ σ75 37 j = k := by
              intro k h1 h2
              by_cases e : k < R
              · obtain ⟨j, a1, a2, a3, a4⟩ := hcv k h1 e
                exact ⟨j, a1, by omega, a3, by rw [P37, o57 j (by omega)]; exact a4⟩
              · exact ⟨p, by omega, by omega, hbp, by rw [P37, e57]; omega⟩
            refine pe_iload_n d_M_layOut_131 rfl ?_
            refine pe_aload_n d_M_layOut_132 rfl ?_
            refine pe_geti f_M_87 d_M_layOut_133 rfl rfl 1 rfl ?_
            refine pe_icmp_ne (t := 145) d_M_layOut_136 (by first | exact hB _ _ | exact hB0 _ _ | exact hBt _ _ | exact ⟨by omega, by omega⟩) (by first | exact hB _ _ | exact hB0 _ _ | exact hBt _ _ | exact ⟨by omega, by omega⟩) (fun h136 => ?_) (fun h136 => ?_)
            · skip
              refine pe_aload_n d_M_layOut_145 rfl ?_
              refine pe_iload_n d_M_layOut_146 rfl ?_
              refine pe_v1p d_M_layOut_147 c_M_107 i_M_after s_M_after rfl rfl (t_M_after hB (by omega) (by omega)) (fun z147 hz147 => ?_)
              have w30b : σ75 30 = σ 30 := ((f75 30 (by decide)).trans ((f72 30 (by decide)).trans ((f64 30 (by decide)).trans ((f57 30 (by decide)).trans (hfr 30 (by decide))))))
              have w1b : σ75 29 1 = σ 29 1 := by omega
              refine pe_istore_n d_M_layOut_150 ?_
              refine pe_goto (t := 6) d_M_layOut_151 ?_
              (first
              | (refine pe_drop 4 (pe_drop 5 ?_); exact ih (_, _, _, r2 + 1, _) ⟨hB, (fun b hb => (f75 b (by simp at hb ⊢; try omega)).trans ((f72 b (by simp at hb ⊢; try omega)).trans ((f64 b (by simp at hb ⊢; try omega)).trans ((f57 b (by simp at hb ⊢; try omega)).trans (hfr b (by simp at hb ⊢; try omega)))))), (fun j hj => (o75 j (by simp at hj ⊢; try omega)).trans ((congrFun (f72 29 (by decide)) j).trans ((congrFun (f64 29 (by decide)) j).trans ((congrFun (f57 29 (by decide)) j).trans (hor j (by simp at hj ⊢; try omega)))))), fun q => by (try dsimp only at q); omega, fun j h1 h2 hb => hgd2 j h1 (by (try dsimp only at *); omega) hb, fun k h1 h2 => by (try dsimp only at *); (obtain ⟨j, a1, a2, a3, a4⟩ := hcv2 k h1 h2); exact ⟨j, a1, by omega, a3, a4⟩, by (try dsimp only); omega⟩ (by (try dsimp only); omega))
              | (refine pe_drop 4 (pe_drop 5 ?_); exact ih (_, _, _, r2 + 1, _) ⟨hB, (fun b hb => (f75 b (by simp at hb ⊢; try omega)).trans ((f72 b (by simp at hb ⊢; try omega)).trans ((f64 b (by simp at hb ⊢; try omega)).trans ((f57 b (by simp at hb ⊢; try omega)).trans (hfr b (by simp at hb ⊢; try omega)))))), (fun j hj => (o75 j (by simp at hj ⊢; try omega)).trans ((congrFun (f72 29 (by decide)) j).trans ((congrFun (f64 29 (by decide)) j).trans ((congrFun (f57 29 (by decide)) j).trans (hor j (by simp at hj ⊢; try omega)))))), fun q => by rw [w30b, w1b] at hz147; exact hz147.2.1, fun j h1 h2 hb => hgd2 j h1 (by (try dsimp only at *); (by_cases e : j ≤ p); exact e; exact absurd hb (by rw [w30b, w1b] at hz147; exact hz147.2.2 j (by omega) h2)) hb, fun k h1 h2 => by (try dsimp only at *); (obtain ⟨j, a1, a2, a3, a4⟩ := hcv2 k h1 h2); exact ⟨j, a1, by omega, a3, a4⟩, by (try dsimp only); omega⟩ (by (try dsimp only); omega)))
            · skip
              refine pe_iload_n d_M_layOut_139 rfl ?_
              refine pe_iconst d_M_layOut_140 ?_
              refine pe_iadd d_M_layOut_141 ?_
              refine pe_goto (t := 150) d_M_layOut_142 ?_
              have w30b : σ75 30 = σ 30 := ((f75 30 (by decide)).trans ((f72 30 (by decide)).trans ((f64 30 (by decide)).trans ((f57 30 (by decide)).trans (hfr 30 (by decide))))))
              have w1b : σ75 29 1 = σ 29 1 := by omega
              refine pe_istore_n d_M_layOut_150 ?_
              refine pe_goto (t := 6) d_M_layOut_151 ?_
              (first
              | (refine pe_drop 4 (pe_drop 5 ?_); exact ih (_, _, _, r2 + 1, _) ⟨hB, (fun b hb => (f75 b (by simp at hb ⊢; try omega)).trans ((f72 b (by simp at hb ⊢; try omega)).trans ((f64 b (by simp at hb ⊢; try omega)).trans ((f57 b (by simp at hb ⊢; try omega)).trans (hfr b (by simp at hb ⊢; try omega)))))), (fun j hj => (o75 j (by simp at hj ⊢; try omega)).trans ((congrFun (f72 29 (by decide)) j).trans ((congrFun (f64 29 (by decide)) j).trans ((congrFun (f57 29 (by decide)) j).trans (hor j (by simp at hj ⊢; try omega)))))), fun q => by (try dsimp only at q); omega, fun j h1 h2 hb => hgd2 j h1 (by (try dsimp only at *); omega) hb, fun k h1 h2 => by (try dsimp only at *); (obtain ⟨j, a1, a2, a3, a4⟩ := hcv2 k h1 h2); exact ⟨j, a1, by omega, a3, a4⟩, by (try dsimp only); omega⟩ (by (try dsimp only); omega))
              | (refine pe_drop 4 (pe_drop 5 ?_); exact ih (_, _, _, r2 + 1, _) ⟨hB, (fun b hb => (f75 b (by simp at hb ⊢; try omega)).trans ((f72 b (by simp at hb ⊢; try omega)).trans ((f64 b (by simp at hb ⊢; try omega)).trans ((f57 b (by simp at hb ⊢; try omega)).trans (hfr b (by simp at hb ⊢; try omega)))))), (fun j hj => (o75 j (by simp at hj ⊢; try omega)).trans ((congrFun (f72 29 (by decide)) j).trans ((congrFun (f64 29 (by decide)) j).trans ((congrFun (f57 29 (by decide)) j).trans (hor j (by simp at hj ⊢; try omega)))))), fun q => by rw [w30b, w1b] at hz147; exact hz147.2.1, fun j h1 h2 hb => hgd2 j h1 (by (try dsimp only at *); (by_cases e : j ≤ p); exact e; exact absurd hb (by rw [w30b, w1b] at hz147; exact hz147.2.2 j (by omega) h2)) hb, fun k h1 h2 => by (try dsimp only at *); (obtain ⟨j, a1, a2, a3, a4⟩ := hcv2 k h1 h2); exact ⟨j, a1, by omega, a3, a4⟩, by (try dsimp only); omega⟩ (by (try dsimp only); omega)))
      · skip
        refine pe_aload_n d_M_layOut_86 rfl ?_
        refine pe_getr f_M_7 d_M_layOut_87 rfl rfl ?_
        refine pe_iload_n d_M_layOut_90 rfl ?_
        refine pe_iald d_M_layOut_91 rfl (by omega) (by omega) ?_
        refine pe_bipush d_M_layOut_92 ?_
        refine pe_icmp_ne (t := 101) d_M_layOut_94 (by first | exact hB _ _ | exact hB0 _ _ | exact hBt _ _ | exact ⟨by omega, by omega⟩) (by first | exact hB _ _ | exact hB0 _ _ | exact hBt _ _ | exact ⟨by omega, by omega⟩) (fun h94 => ?_) (fun h94 => ?_)
        · skip
          refine pe_iconst d_M_layOut_101 ?_
          refine pe_istore d_M_layOut_102 ?_
          refine pe_iload d_M_layOut_104 rfl ?_
          refine pe_if_eq (t := 113) d_M_layOut_106 (by first | exact hB _ _ | exact hB0 _ _ | exact hBt _ _ | exact ⟨by omega, by omega⟩) (fun h106 => ?_) (fun h106 => ?_)
          · skip
            refine pe_iload_n d_M_layOut_113 rfl ?_
            refine pe_iload d_M_layOut_114 rfl ?_
            refine pe_iadd d_M_layOut_116 ?_
            refine pe_istore_n d_M_layOut_117 ?_
            refine pe_iload d_M_layOut_118 rfl ?_
            refine pe_if_eq (t := 129) d_M_layOut_120 (by first | exact hB _ _ | exact hB0 _ _ | exact hBt _ _ | exact ⟨by omega, by omega⟩) (fun h120 => ?_) (fun h120 => ?_)
            · skip
              refine pe_iload_n d_M_layOut_129 rfl ?_
              refine pe_istore_n d_M_layOut_130 ?_
              have P37 : σ75 37 = σ57 37 := (f75 37 (by decide)).trans ((f72 37 (by decide)).trans (f64 37 (by decide)))
              have P38 : σ75 38 = σ64 38 := (f75 38 (by decide)).trans (f72 38 (by decide))
              have P39 : σ75 39 = σ72 39 := f75 39 (by decide)
              have Q38 : σ57 38 = τ 38 := f57 38 (by decide)
              have Q39 : σ64 39 = τ 39 := (f64 39 (by decide)).trans (f57 39 (by decide))
              have hgd2 : ∀ j, 0 ≤ j → j ≤ p → pe_bg (σ 30) (σ 29 1) j → (0 ≤ σ75 37 j ∧ σ75 37 j ≤ 500 ∧ 0 ≤ σ75 38 j ∧ 1 ≤ σ75 39 j ∧ σ75 38 j + σ75 39 j ≤ σ 29 21 ∧ (j < σ 29 1 → pe_wi (σ 30 j) → σ75 39 j = 2)) := by
                intro j h1 h2 hb
                by_cases e : j = p
                · subst e; rw [P37, P38, P39, e57, e64, e72]; exact ⟨by omega, by omega, by omega, by omega, by omega, hwi⟩
                · have q := hgd j h1 (by omega) hb
                  rw [P37, P38, P39, o57 j e, o64 j e, o72 j e, Q38, Q39]; exact q
              have hcv2 : ∀ k, 0 ≤ k → k < r2 + 1 → ∃ j, 0 ≤ j ∧ j ≤ p ∧ pe_bg (σ 30) (σ 29 1) j ∧ σ75 37 j = k := by
                intro k h1 h2
                by_cases e : k < R
                · obtain ⟨j, a1, a2, a3, a4⟩ := hcv k h1 e
                  exact ⟨j, a1, by omega, a3, by rw [P37, o57 j (by omega)]; exact a4⟩
                · exact ⟨p, by omega, by omega, hbp, by rw [P37, e57]; omega⟩
              refine pe_iload_n d_M_layOut_131 rfl ?_
              refine pe_aload_n d_M_layOut_132 rfl ?_
              refine pe_geti f_M_87 d_M_layOut_133 rfl rfl 1 rfl ?_
              refine pe_icmp_ne (t := 145) d_M_layOut_136 (by first | exact hB _ _ | exact hB0 _ _ | exact hBt _ _ | exact ⟨by omega, by omega⟩) (by first | exact hB _ _ | exact hB0 _ _ | exact hBt _ _ | exact ⟨by omega, by omega⟩) (fun h136 => ?_) (fun h136 => ?_)
              · skip
                refine pe_aload_n d_M_layOut_145 rfl ?_
                refine pe_iload_n d_M_layOut_146 rfl ?_
                refine pe_v1p d_M_layOut_147 c_M_107 i_M_after s_M_after rfl rfl (t_M_after hB (by omega) (by omega)) (fun z147 hz147 => ?_)
                have w30b : σ75 30 = σ 30 := ((f75 30 (by decide)).trans ((f72 30 (by decide)).trans ((f64 30 (by decide)).trans ((f57 30 (by decide)).trans (hfr 30 (by decide))))))
                have w1b : σ75 29 1 = σ 29 1 := by omega
                refine pe_istore_n d_M_layOut_150 ?_
                refine pe_goto (t := 6) d_M_layOut_151 ?_
                (first
                | (refine pe_drop 4 (pe_drop 5 ?_); exact ih (_, _, _, r2 + 1, _) ⟨hB, (fun b hb => (f75 b (by simp at hb ⊢; try omega)).trans ((f72 b (by simp at hb ⊢; try omega)).trans ((f64 b (by simp at hb ⊢; try omega)).trans ((f57 b (by simp at hb ⊢; try omega)).trans (hfr b (by simp at hb ⊢; try omega)))))), (fun j hj => (o75 j (by simp at hj ⊢; try omega)).trans ((congrFun (f72 29 (by decide)) j).trans ((congrFun (f64 29 (by decide)) j).trans ((congrFun (f57 29 (by decide)) j).trans (hor j (by simp at hj ⊢; try omega)))))), fun q => by (try dsimp only at q); omega, fun j h1 h2 hb => hgd2 j h1 (by (try dsimp only at *); omega) hb, fun k h1 h2 => by (try dsimp only at *); (obtain ⟨j, a1, a2, a3, a4⟩ := hcv2 k h1 h2); exact ⟨j, a1, by omega, a3, a4⟩, by (try dsimp only); omega⟩ (by (try dsimp only); omega))
                | (refine pe_drop 4 (pe_drop 5 ?_); exact ih (_, _, _, r2 + 1, _) ⟨hB, (fun b hb => (f75 b (by simp at hb ⊢; try omega)).trans ((f72 b (by simp at hb ⊢; try omega)).trans ((f64 b (by simp at hb ⊢; try omega)).trans ((f57 b (by simp at hb ⊢; try omega)).trans (hfr b (by simp at hb ⊢; try omega)))))), (fun j hj => (o75 j (by simp at hj ⊢; try omega)).trans ((congrFun (f72 29 (by decide)) j).trans ((congrFun (f64 29 (by decide)) j).trans ((congrFun (f57 29 (by decide)) j).trans (hor j (by simp at hj ⊢; try omega)))))), fun q => by rw [w30b, w1b] at hz147; exact hz147.2.1, fun j h1 h2 hb => hgd2 j h1 (by (try dsimp only at *); (by_cases e : j ≤ p); exact e; exact absurd hb (by rw [w30b, w1b] at hz147; exact hz147.2.2 j (by omega) h2)) hb, fun k h1 h2 => by (try dsimp only at *); (obtain ⟨j, a1, a2, a3, a4⟩ := hcv2 k h1 h2); exact ⟨j, a1, by omega, a3, a4⟩, by (try dsimp only); omega⟩ (by (try dsimp only); omega)))
              · skip
                refine pe_iload_n d_M_layOut_139 rfl ?_
                refine pe_iconst d_M_layOut_140 ?_
                refine pe_iadd d_M_layOut_141 ?_
                refine pe_goto (t := 150) d_M_layOut_142 ?_
                have w30b : σ75 30 = σ 30 := ((f75 30 (by decide)).trans ((f72 30 (by decide)).trans ((f64 30 (by decide)).trans ((f57 30 (by decide)).trans (hfr 30 (by decide))))))
                have w1b : σ75 29 1 = σ 29 1 := by omega
                refine pe_istore_n d_M_layOut_150 ?_
                refine pe_goto (t := 6) d_M_layOut_151 ?_
                (first
                | (refine pe_drop 4 (pe_drop 5 ?_); exact ih (_, _, _, r2 + 1, _) ⟨hB, (fun b hb => (f75 b (by simp at hb ⊢; try omega)).trans ((f72 b (by simp at hb ⊢; try omega)).trans ((f64 b (by simp at hb ⊢; try omega)).trans ((f57 b (by simp at hb ⊢; try omega)).trans (hfr b (by simp at hb ⊢; try omega)))))), (fun j hj => (o75 j (by simp at hj ⊢; try omega)).trans ((congrFun (f72 29 (by decide)) j).trans ((congrFun (f64 29 (by decide)) j).trans ((congrFun (f57 29 (by decide)) j).trans (hor j (by simp at hj ⊢; try omega)))))), fun q => by (try dsimp only at q); omega, fun j h1 h2 hb => hgd2 j h1 (by (try dsimp only at *); omega) hb, fun k h1 h2 => by (try dsimp only at *); (obtain ⟨j, a1, a2, a3, a4⟩ := hcv2 k h1 h2); exact ⟨j, a1, by omega, a3, a4⟩, by (try dsimp only); omega⟩ (by (try dsimp only); omega))
                | (refine pe_drop 4 (pe_drop 5 ?_); exact ih (_, _, _, r2 + 1, _) ⟨hB, (fun b hb => (f75 b (by simp at hb ⊢; try omega)).trans ((f72 b (by simp at hb ⊢; try omega)).trans ((f64 b (by simp at hb ⊢; try omega)).trans ((f57 b (by simp at hb ⊢; try omega)).trans (hfr b (by simp at hb ⊢; try omega)))))), (fun j hj => (o75 j (by simp at hj ⊢; try omega)).trans ((congrFun (f72 29 (by decide)) j).trans ((congrFun (f64 29 (by decide)) j).trans ((congrFun (f57 29 (by decide)) j).trans (hor j (by simp at hj ⊢; try omega)))))), fun q => by rw [w30b, w1b] at hz147; exact hz147.2.1, fun j h1 h2 hb => hgd2 j h1 (by (try dsimp only at *); (by_cases e : j ≤ p); exact e; exact absurd hb (by rw [w30b, w1b] at hz147; exact hz147.2.2 j (by omega) h2)) hb, fun k h1 h2 => by (try dsimp only at *); (obtain ⟨j, a1, a2, a3, a4⟩ := hcv2 k h1 h2); exact ⟨j, a1, by omega, a3, a4⟩, by (try dsimp only); omega⟩ (by (try dsimp only); omega)))
            · skip
              refine pe_iload_n d_M_layOut_123 rfl ?_
              refine pe_iconst d_M_layOut_124 ?_
              refine pe_iadd d_M_layOut_125 ?_
              refine pe_goto (t := 130) d_M_layOut_126 ?_
              refine pe_istore_n d_M_layOut_130 ?_
              have P37 : σ75 37 = σ57 37 := (f75 37 (by decide)).trans ((f72 37 (by decide)).trans (f64 37 (by decide)))
              have P38 : σ75 38 = σ64 38 := (f75 38 (by decide)).trans (f72 38 (by decide))
              have P39 : σ75 39 = σ72 39 := f75 39 (by decide)
              have Q38 : σ57 38 = τ 38 := f57 38 (by decide)
              have Q39 : σ64 39 = τ 39 := (f64 39 (by decide)).trans (f57 39 (by decide))
              have hgd2 : ∀ j, 0 ≤ j → j ≤ p → pe_bg (σ 30) (σ 29 1) j → (0 ≤ σ75 37 j ∧ σ75 37 j ≤ 500 ∧ 0 ≤ σ75 38 j ∧ 1 ≤ σ75 39 j ∧ σ75 38 j + σ75 39 j ≤ σ 29 21 ∧ (j < σ 29 1 → pe_wi (σ 30 j) → σ75 39 j = 2)) := by
                intro j h1 h2 hb
                by_cases e : j = p
                · subst e; rw [P37, P38, P39, e57, e64, e72]; exact ⟨by omega, by omega, by omega, by omega, by omega, hwi⟩
                · have q := hgd j h1 (by omega) hb
                  rw [P37, P38, P39, o57 j e, o64 j e, o72 j e, Q38, Q39]; exact q
              have hcv2 : ∀ k, 0 ≤ k → k < r2 + 1 → ∃ j, 0 ≤ j ∧ j ≤ p ∧ pe_bg (σ 30) (σ 29 1) j ∧ σ75 37 j = k := by
                intro k h1 h2
                by_cases e : k < R
                · obtain ⟨j, a1, a2, a3, a4⟩ := hcv k h1 e
                  exact ⟨j, a1, by omega, a3, by rw [P37, o57 j (by omega)]; exact a4⟩
                · exact ⟨p, by omega, by omega, hbp, by rw [P37, e57]; omega⟩
              refine pe_iload_n d_M_layOut_131 rfl ?_
              refine pe_aload_n d_M_layOut_132 rfl ?_
              refine pe_geti f_M_87 d_M_layOut_133 rfl rfl 1 rfl ?_
              refine pe_icmp_ne (t := 145) d_M_layOut_136 (by first | exact hB _ _ | exact hB0 _ _ | exact hBt _ _ | exact ⟨by omega, by omega⟩) (by first | exact hB _ _ | exact hB0 _ _ | exact hBt _ _ | exact ⟨by omega, by omega⟩) (fun h136 => ?_) (fun h136 => ?_)
              · skip
                refine pe_aload_n d_M_layOut_145 rfl ?_
                refine pe_iload_n d_M_layOut_146 rfl ?_
                refine pe_v1p d_M_layOut_147 c_M_107 i_M_after s_M_after rfl rfl (t_M_after hB (by omega) (by omega)) (fun z147 hz147 => ?_)
                have w30b : σ75 30 = σ 30 := ((f75 30 (by decide)).trans ((f72 30 (by decide)).trans ((f64 30 (by decide)).trans ((f57 30 (by decide)).trans (hfr 30 (by decide))))))
                have w1b : σ75 29 1 = σ 29 1 := by omega
                refine pe_istore_n d_M_layOut_150 ?_
                refine pe_goto (t := 6) d_M_layOut_151 ?_
                (first
                | (refine pe_drop 4 (pe_drop 5 ?_); exact ih (_, _, _, r2 + 1, _) ⟨hB, (fun b hb => (f75 b (by simp at hb ⊢; try omega)).trans ((f72 b (by simp at hb ⊢; try omega)).trans ((f64 b (by simp at hb ⊢; try omega)).trans ((f57 b (by simp at hb ⊢; try omega)).trans (hfr b (by simp at hb ⊢; try omega)))))), (fun j hj => (o75 j (by simp at hj ⊢; try omega)).trans ((congrFun (f72 29 (by decide)) j).trans ((congrFun (f64 29 (by decide)) j).trans ((congrFun (f57 29 (by decide)) j).trans (hor j (by simp at hj ⊢; try omega)))))), fun q => by (try dsimp only at q); omega, fun j h1 h2 hb => hgd2 j h1 (by (try dsimp only at *); omega) hb, fun k h1 h2 => by (try dsimp only at *); (obtain ⟨j, a1, a2, a3, a4⟩ := hcv2 k h1 h2); exact ⟨j, a1, by omega, a3, a4⟩, by (try dsimp only); omega⟩ (by (try dsimp only); omega))
                | (refine pe_drop 4 (pe_drop 5 ?_); exact ih (_, _, _, r2 + 1, _) ⟨hB, (fun b hb => (f75 b (by simp at hb ⊢; try omega)).trans ((f72 b (by simp at hb ⊢; try omega)).trans ((f64 b (by simp at hb ⊢; try omega)).trans ((f57 b (by simp at hb ⊢; try omega)).trans (hfr b (by simp at hb ⊢; try omega)))))), (fun j hj => (o75 j (by simp at hj ⊢; try omega)).trans ((congrFun (f72 29 (by decide)) j).trans ((congrFun (f64 29 (by decide)) j).trans ((congrFun (f57 29 (by decide)) j).trans (hor j (by simp at hj ⊢; try omega)))))), fun q => by rw [w30b, w1b] at hz147; exact hz147.2.1, fun j h1 h2 hb => hgd2 j h1 (by (try dsimp only at *); (by_cases e : j ≤ p); exact e; exact absurd hb (by rw [w30b, w1b] at hz147; exact hz147.2.2 j (by omega) h2)) hb, fun k h1 h2 => by (try dsimp only at *); (obtain ⟨j, a1, a2, a3, a4⟩ := hcv2 k h1 h2); exact ⟨j, a1, by omega, a3, a4⟩, by (try dsimp only); omega⟩ (by (try dsimp only); omega)))
              · skip
                refine pe_iload_n d_M_layOut_139 rfl ?_
                refine pe_iconst d_M_layOut_140 ?_
                refine pe_iadd d_M_layOut_141 ?_
                refine pe_goto (t := 150) d_M_layOut_142 ?_
                have w30b : σ75 30 = σ 30 := ((f75 30 (by decide)).trans ((f72 30 (by decide)).trans ((f64 30 (by decide)).trans ((f57 30 (by decide)).trans (hfr 30 (by decide))))))
                have w1b : σ75 29 1 = σ 29 1 := by omega
                refine pe_istore_n d_M_layOut_150 ?_
                refine pe_goto (t := 6) d_M_layOut_151 ?_
                (first
                | (refine pe_drop 4 (pe_drop 5 ?_); exact ih (_, _, _, r2 + 1, _) ⟨hB, (fun b hb => (f75 b (by simp at hb ⊢; try omega)).trans ((f72 b (by simp at hb ⊢; try omega)).trans ((f64 b (by simp at hb ⊢; try omega)).trans ((f57 b (by simp at hb ⊢; try omega)).trans (hfr b (by simp at hb ⊢; try omega)))))), (fun j hj => (o75 j (by simp at hj ⊢; try omega)).trans ((congrFun (f72 29 (by decide)) j).trans ((congrFun (f64 29 (by decide)) j).trans ((congrFun (f57 29 (by decide)) j).trans (hor j (by simp at hj ⊢; try omega)))))), fun q => by (try dsimp only at q); omega, fun j h1 h2 hb => hgd2 j h1 (by (try dsimp only at *); omega) hb, fun k h1 h2 => by (try dsimp only at *); (obtain ⟨j, a1, a2, a3, a4⟩ := hcv2 k h1 h2); exact ⟨j, a1, by omega, a3, a4⟩, by (try dsimp only); omega⟩ (by (try dsimp only); omega))
                | (refine pe_drop 4 (pe_drop 5 ?_); exact ih (_, _, _, r2 + 1, _) ⟨hB, (fun b hb => (f75 b (by simp at hb ⊢; try omega)).trans ((f72 b (by simp at hb ⊢; try omega)).trans ((f64 b (by simp at hb ⊢; try omega)).trans ((f57 b (by simp at hb ⊢; try omega)).trans (hfr b (by simp at hb ⊢; try omega)))))), (fun j hj => (o75 j (by simp at hj ⊢; try omega)).trans ((congrFun (f72 29 (by decide)) j).trans ((congrFun (f64 29 (by decide)) j).trans ((congrFun (f57 29 (by decide)) j).trans (hor j (by simp at hj ⊢; try omega)))))), fun q => by rw [w30b, w1b] at hz147; exact hz147.2.1, fun j h1 h2 hb => hgd2 j h1 (by (try dsimp only at *); (by_cases e : j ≤ p); exact e; exact absurd hb (by rw [w30b, w1b] at hz147; exact hz147.2.2 j (by omega) h2)) hb, fun k h1 h2 => by (try dsimp only at *); (obtain ⟨j, a1, a2, a3, a4⟩ := hcv2 k h1 h2); exact ⟨j, a1, by omega, a3, a4⟩, by (try dsimp only); omega⟩ (by (try dsimp only); omega)))
          · skip
            refine pe_iconst d_M_layOut_109 ?_
            refine pe_goto (t := 117) d_M_layOut_110 ?_
            refine pe_istore_n d_M_layOut_117 ?_
            refine pe_iload d_M_layOut_118 rfl ?_
            refine pe_if_eq (t := 129) d_M_layOut_120 (by first | exact hB _ _ | exact hB0 _ _ | exact hBt _ _ | exact ⟨by omega, by omega⟩) (fun h120 => ?_) (fun h120 => ?_)
            · skip
              refine pe_iload_n d_M_layOut_129 rfl ?_
              refine pe_istore_n d_M_layOut_130 ?_
              have P37 : σ75 37 = σ57 37 := (f75 37 (by decide)).trans ((f72 37 (by decide)).trans (f64 37 (by decide)))
              have P38 : σ75 38 = σ64 38 := (f75 38 (by decide)).trans (f72 38 (by decide))
              have P39 : σ75 39 = σ72 39 := f75 39 (by decide)
              have Q38 : σ57 38 = τ 38 := f57 38 (by decide)
              have Q39 : σ64 39 = τ 39 := (f64 39 (by decide)).trans (f57 39 (by decide))
              have hgd2 : ∀ j, 0 ≤ j → j ≤ p → pe_bg (σ 30) (σ 29 1) j → (0 ≤ σ75 37 j ∧ σ75 37 j ≤ 500 ∧ 0 ≤ σ75 38 j ∧ 1 ≤ σ75 39 j ∧ σ75 38 j + σ75 39 j ≤ σ 29 21 ∧ (j < σ 29 1 → pe_wi (σ 30 j) → σ75 39 j = 2)) := by
                intro j h1 h2 hb
                by_cases e : j = p
                · subst e; rw [P37, P38, P39, e57, e64, e72]; exact ⟨by omega, by omega, by omega, by omega, by omega, hwi⟩
                · have q := hgd j h1 (by omega) hb
                  rw [P37, P38, P39, o57 j e, o64 j e, o72 j e, Q38, Q39]; exact q
              have hcv2 : ∀ k, 0 ≤ k → k < r2 + 1 → ∃ j, 0 ≤ j ∧ j ≤ p ∧ pe_bg (σ 30) (σ 29 1) j ∧ σ75 37 j = k := by
                intro k h1 h2
                by_cases e : k < R
                · obtain ⟨j, a1, a2, a3, a4⟩ := hcv k h1 e
                  exact ⟨j, a1, by omega, a3, by rw [P37, o57 j (by omega)]; exact a4⟩
                · exact ⟨p, by omega, by omega, hbp, by rw [P37, e57]; omega⟩
              refine pe_iload_n d_M_layOut_131 rfl ?_
              refine pe_aload_n d_M_layOut_132 rfl ?_
              refine pe_geti f_M_87 d_M_layOut_133 rfl rfl 1 rfl ?_
              refine pe_icmp_ne (t := 145) d_M_layOut_136 (by first | exact hB _ _ | exact hB0 _ _ | exact hBt _ _ | exact ⟨by omega, by omega⟩) (by first | exact hB _ _ | exact hB0 _ _ | exact hBt _ _ | exact ⟨by omega, by omega⟩) (fun h136 => ?_) (fun h136 => ?_)
              · skip
                refine pe_aload_n d_M_layOut_145 rfl ?_
                refine pe_iload_n d_M_layOut_146 rfl ?_
                refine pe_v1p d_M_layOut_147 c_M_107 i_M_after s_M_after rfl rfl (t_M_after hB (by omega) (by omega)) (fun z147 hz147 => ?_)
                have w30b : σ75 30 = σ 30 := ((f75 30 (by decide)).trans ((f72 30 (by decide)).trans ((f64 30 (by decide)).trans ((f57 30 (by decide)).trans (hfr 30 (by decide))))))
                have w1b : σ75 29 1 = σ 29 1 := by omega
                refine pe_istore_n d_M_layOut_150 ?_
                refine pe_goto (t := 6) d_M_layOut_151 ?_
                (first
                | (refine pe_drop 4 (pe_drop 5 ?_); exact ih (_, _, _, r2 + 1, _) ⟨hB, (fun b hb => (f75 b (by simp at hb ⊢; try omega)).trans ((f72 b (by simp at hb ⊢; try omega)).trans ((f64 b (by simp at hb ⊢; try omega)).trans ((f57 b (by simp at hb ⊢; try omega)).trans (hfr b (by simp at hb ⊢; try omega)))))), (fun j hj => (o75 j (by simp at hj ⊢; try omega)).trans ((congrFun (f72 29 (by decide)) j).trans ((congrFun (f64 29 (by decide)) j).trans ((congrFun (f57 29 (by decide)) j).trans (hor j (by simp at hj ⊢; try omega)))))), fun q => by (try dsimp only at q); omega, fun j h1 h2 hb => hgd2 j h1 (by (try dsimp only at *); omega) hb, fun k h1 h2 => by (try dsimp only at *); (obtain ⟨j, a1, a2, a3, a4⟩ := hcv2 k h1 h2); exact ⟨j, a1, by omega, a3, a4⟩, by (try dsimp only); omega⟩ (by (try dsimp only); omega))
                | (refine pe_drop 4 (pe_drop 5 ?_); exact ih (_, _, _, r2 + 1, _) ⟨hB, (fun b hb => (f75 b (by simp at hb ⊢; try omega)).trans ((f72 b (by simp at hb ⊢; try omega)).trans ((f64 b (by simp at hb ⊢; try omega)).trans ((f57 b (by simp at hb ⊢; try omega)).trans (hfr b (by simp at hb ⊢; try omega)))))), (fun j hj => (o75 j (by simp at hj ⊢; try omega)).trans ((congrFun (f72 29 (by decide)) j).trans ((congrFun (f64 29 (by decide)) j).trans ((congrFun (f57 29 (by decide)) j).trans (hor j (by simp at hj ⊢; try omega)))))), fun q => by rw [w30b, w1b] at hz147; exact hz147.2.1, fun j h1 h2 hb => hgd2 j h1 (by (try dsimp only at *); (by_cases e : j ≤ p); exact e; exact absurd hb (by rw [w30b, w1b] at hz147; exact hz147.2.2 j (by omega) h2)) hb, fun k h1 h2 => by (try dsimp only at *); (obtain ⟨j, a1, a2, a3, a4⟩ := hcv2 k h1 h2); exact ⟨j, a1, by omega, a3, a4⟩, by (try dsimp only); omega⟩ (by (try dsimp only); omega)))
              · skip
                refine pe_iload_n d_M_layOut_139 rfl ?_
                refine pe_iconst d_M_layOut_140 ?_
                refine pe_iadd d_M_layOut_141 ?_
                refine pe_goto (t := 150) d_M_layOut_142 ?_
                have w30b : σ75 30 = σ 30 := ((f75 30 (by decide)).trans ((f72 30 (by decide)).trans ((f64 30 (by decide)).trans ((f57 30 (by decide)).trans (hfr 30 (by decide))))))
                have w1b : σ75 29 1 = σ 29 1 := by omega
                refine pe_istore_n d_M_layOut_150 ?_
                refine pe_goto (t := 6) d_M_layOut_151 ?_
                (first
                | (refine pe_drop 4 (pe_drop 5 ?_); exact ih (_, _, _, r2 + 1, _) ⟨hB, (fun b hb => (f75 b (by simp at hb ⊢; try omega)).trans ((f72 b (by simp at hb ⊢; try omega)).trans ((f64 b (by simp at hb ⊢; try omega)).trans ((f57 b (by simp at hb ⊢; try omega)).trans (hfr b (by simp at hb ⊢; try omega)))))), (fun j hj => (o75 j (by simp at hj ⊢; try omega)).trans ((congrFun (f72 29 (by decide)) j).trans ((congrFun (f64 29 (by decide)) j).trans ((congrFun (f57 29 (by decide)) j).trans (hor j (by simp at hj ⊢; try omega)))))), fun q => by (try dsimp only at q); omega, fun j h1 h2 hb => hgd2 j h1 (by (try dsimp only at *); omega) hb, fun k h1 h2 => by (try dsimp only at *); (obtain ⟨j, a1, a2, a3, a4⟩ := hcv2 k h1 h2); exact ⟨j, a1, by omega, a3, a4⟩, by (try dsimp only); omega⟩ (by (try dsimp only); omega))
                | (refine pe_drop 4 (pe_drop 5 ?_); exact ih (_, _, _, r2 + 1, _) ⟨hB, (fun b hb => (f75 b (by simp at hb ⊢; try omega)).trans ((f72 b (by simp at hb ⊢; try omega)).trans ((f64 b (by simp at hb ⊢; try omega)).trans ((f57 b (by simp at hb ⊢; try omega)).trans (hfr b (by simp at hb ⊢; try omega)))))), (fun j hj => (o75 j (by simp at hj ⊢; try omega)).trans ((congrFun (f72 29 (by decide)) j).trans ((congrFun (f64 29 (by decide)) j).trans ((congrFun (f57 29 (by decide)) j).trans (hor j (by simp at hj ⊢; try omega)))))), fun q => by rw [w30b, w1b] at hz147; exact hz147.2.1, fun j h1 h2 hb => hgd2 j h1 (by (try dsimp only at *); (by_cases e : j ≤ p); exact e; exact absurd hb (by rw [w30b, w1b] at hz147; exact hz147.2.2 j (by omega) h2)) hb, fun k h1 h2 => by (try dsimp only at *); (obtain ⟨j, a1, a2, a3, a4⟩ := hcv2 k h1 h2); exact ⟨j, a1, by omega, a3, a4⟩, by (try dsimp only); omega⟩ (by (try dsimp only); omega)))
            · skip
              refine pe_iload_n d_M_layOut_123 rfl ?_
              refine pe_iconst d_M_layOut_124 ?_
              refine pe_iadd d_M_layOut_125 ?_
              refine pe_goto (t := 130) d_M_layOut_126 ?_
              refine pe_istore_n d_M_layOut_130 ?_
              have P37 : σ75 37 = σ57 37 := (f75 37 (by decide)).trans ((f72 37 (by decide)).trans (f64 37 (by decide)))
              have P38 : σ75 38 = σ64 38 := (f75 38 (by decide)).trans (f72 38 (by decide))
              have P39 : σ75 39 = σ72 39 := f75 39 (by decide)
              have Q38 : σ57 38 = τ 38 := f57 38 (by decide)
              have Q39 : σ64 39 = τ 39 := (f64 39 (by decide)).trans (f57 39 (by decide))
              have hgd2 : ∀ j, 0 ≤ j → j ≤ p → pe_bg (σ 30) (σ 29 1) j → (0 ≤ σ75 37 j ∧ σ75 37 j ≤ 500 ∧ 0 ≤ σ75 38 j ∧ 1 ≤ σ75 39 j ∧ σ75 38 j + σ75 39 j ≤ σ 29 21 ∧ (j < σ 29 1 → pe_wi (σ 30 j) → σ75 39 j = 2)) := by
                intro j h1 h2 hb
                by_cases e : j = p
                · subst e; rw [P37, P38, P39, e57, e64, e72]; exact ⟨by omega, by omega, by omega, by omega, by omega, hwi⟩
                · have q := hgd j h1 (by omega) hb
                  rw [P37, P38, P39, o57 j e, o64 j e, o72 j e, Q38, Q39]; exact q
              have hcv2 : ∀ k, 0 ≤ k → k < r2 + 1 → ∃ j, 0 ≤ j ∧ j ≤ p ∧ pe_bg (σ 30) (σ 29 1) j ∧ σ75 37 j = k := by
                intro k h1 h2
                by_cases e : k < R
                · obtain ⟨j, a1, a2, a3, a4⟩ := hcv k h1 e
                  exact ⟨j, a1, by omega, a3, by rw [P37, o57 j (by omega)]; exact a4⟩
                · exact ⟨p, by omega, by omega, hbp, by rw [P37, e57]; omega⟩
              refine pe_iload_n d_M_layOut_131 rfl ?_
              refine pe_aload_n d_M_layOut_132 rfl ?_
              refine pe_geti f_M_87 d_M_layOut_133 rfl rfl 1 rfl ?_
              refine pe_icmp_ne (t := 145) d_M_layOut_136 (by first | exact hB _ _ | exact hB0 _ _ | exact hBt _ _ | exact ⟨by omega, by omega⟩) (by first | exact hB _ _ | exact hB0 _ _ | exact hBt _ _ | exact ⟨by omega, by omega⟩) (fun h136 => ?_) (fun h136 => ?_)
              · skip
                refine pe_aload_n d_M_layOut_145 rfl ?_
                refine pe_iload_n d_M_layOut_146 rfl ?_
                refine pe_v1p d_M_layOut_147 c_M_107 i_M_after s_M_after rfl rfl (t_M_after hB (by omega) (by omega)) (fun z147 hz147 => ?_)
                have w30b : σ75 30 = σ 30 := ((f75 30 (by decide)).trans ((f72 30 (by decide)).trans ((f64 30 (by decide)).trans ((f57 30 (by decide)).trans (hfr 30 (by decide))))))
                have w1b : σ75 29 1 = σ 29 1 := by omega
                refine pe_istore_n d_M_layOut_150 ?_
                refine pe_goto (t := 6) d_M_layOut_151 ?_
                (first
                | (refine pe_drop 4 (pe_drop 5 ?_); exact ih (_, _, _, r2 + 1, _) ⟨hB, (fun b hb => (f75 b (by simp at hb ⊢; try omega)).trans ((f72 b (by simp at hb ⊢; try omega)).trans ((f64 b (by simp at hb ⊢; try omega)).trans ((f57 b (by simp at hb ⊢; try omega)).trans (hfr b (by simp at hb ⊢; try omega)))))), (fun j hj => (o75 j (by simp at hj ⊢; try omega)).trans ((congrFun (f72 29 (by decide)) j).trans ((congrFun (f64 29 (by decide)) j).trans ((congrFun (f57 29 (by decide)) j).trans (hor j (by simp at hj ⊢; try omega)))))), fun q => by (try dsimp only at q); omega, fun j h1 h2 hb => hgd2 j h1 (by (try dsimp only at *); omega) hb, fun k h1 h2 => by (try dsimp only at *); (obtain ⟨j, a1, a2, a3, a4⟩ := hcv2 k h1 h2); exact ⟨j, a1, by omega, a3, a4⟩, by (try dsimp only); omega⟩ (by (try dsimp only); omega))
                | (refine pe_drop 4 (pe_drop 5 ?_); exact ih (_, _, _, r2 + 1, _) ⟨hB, (fun b hb => (f75 b (by simp at hb ⊢; try omega)).trans ((f72 b (by simp at hb ⊢; try omega)).trans ((f64 b (by simp at hb ⊢; try omega)).trans ((f57 b (by simp at hb ⊢; try omega)).trans (hfr b (by simp at hb ⊢; try omega)))))), (fun j hj => (o75 j (by simp at hj ⊢; try omega)).trans ((congrFun (f72 29 (by decide)) j).trans ((congrFun (f64 29 (by decide)) j).trans ((congrFun (f57 29 (by decide)) j).trans (hor j (by simp at hj ⊢; try omega)))))), fun q => by rw [w30b, w1b] at hz147; exact hz147.2.1, fun j h1 h2 hb => hgd2 j h1 (by (try dsimp only at *); (by_cases e : j ≤ p); exact e; exact absurd hb (by rw [w30b, w1b] at hz147; exact hz147.2.2 j (by omega) h2)) hb, fun k h1 h2 => by (try dsimp only at *); (obtain ⟨j, a1, a2, a3, a4⟩ := hcv2 k h1 h2); exact ⟨j, a1, by omega, a3, a4⟩, by (try dsimp only); omega⟩ (by (try dsimp only); omega)))
              · skip
                refine pe_iload_n d_M_layOut_139 rfl ?_
                refine pe_iconst d_M_layOut_140 ?_
                refine pe_iadd d_M_layOut_141 ?_
                refine pe_goto (t := 150) d_M_layOut_142 ?_
                have w30b : σ75 30 = σ 30 := ((f75 30 (by decide)).trans ((f72 30 (by decide)).trans ((f64 30 (by decide)).trans ((f57 30 (by decide)).trans (hfr 30 (by decide))))))
                have w1b : σ75 29 1 = σ 29 1 := by omega
                refine pe_istore_n d_M_layOut_150 ?_
                refine pe_goto (t := 6) d_M_layOut_151 ?_
                (first
                | (refine pe_drop 4 (pe_drop 5 ?_); exact ih (_, _, _, r2 + 1, _) ⟨hB, (fun b hb => (f75 b (by simp at hb ⊢; try omega)).trans ((f72 b (by simp at hb ⊢; try omega)).trans ((f64 b (by simp at hb ⊢; try omega)).trans ((f57 b (by simp at hb ⊢; try omega)).trans (hfr b (by simp at hb ⊢; try omega)))))), (fun j hj => (o75 j (by simp at hj ⊢; try omega)).trans ((congrFun (f72 29 (by decide)) j).trans ((congrFun (f64 29 (by decide)) j).trans ((congrFun (f57 29 (by decide)) j).trans (hor j (by simp at hj ⊢; try omega)))))), fun q => by (try dsimp only at q); omega, fun j h1 h2 hb => hgd2 j h1 (by (try dsimp only at *); omega) hb, fun k h1 h2 => by (try dsimp only at *); (obtain ⟨j, a1, a2, a3, a4⟩ := hcv2 k h1 h2); exact ⟨j, a1, by omega, a3, a4⟩, by (try dsimp only); omega⟩ (by (try dsimp only); omega))
                | (refine pe_drop 4 (pe_drop 5 ?_); exact ih (_, _, _, r2 + 1, _) ⟨hB, (fun b hb => (f75 b (by simp at hb ⊢; try omega)).trans ((f72 b (by simp at hb ⊢; try omega)).trans ((f64 b (by simp at hb ⊢; try omega)).trans ((f57 b (by simp at hb ⊢; try omega)).trans (hfr b (by simp at hb ⊢; try omega)))))), (fun j hj => (o75 j (by simp at hj ⊢; try omega)).trans ((congrFun (f72 29 (by decide)) j).trans ((congrFun (f64 29 (by decide)) j).trans ((congrFun (f57 29 (by decide)) j).trans (hor j (by simp at hj ⊢; try omega)))))), fun q => by rw [w30b, w1b] at hz147; exact hz147.2.1, fun j h1 h2 hb => hgd2 j h1 (by (try dsimp only at *); (by_cases e : j ≤ p); exact e; exact absurd hb (by rw [w30b, w1b] at hz147; exact hz147.2.2 j (by omega) h2)) hb, fun k h1 h2 => by (try dsimp only at *); (obtain ⟨j, a1, a2, a3, a4⟩ := hcv2 k h1 h2); exact ⟨j, a1, by omega, a3, a4⟩, by (try dsimp only); omega⟩ (by (try dsimp only); omega)))
        · skip
          refine pe_iconst d_M_layOut_97 ?_
          refine pe_goto (t := 102) d_M_layOut_98 ?_
          refine pe_istore d_M_layOut_102 ?_
          refine pe_iload d_M_layOut_104 rfl ?_
          refine pe_if_eq (t := 113) d_M_layOut_106 (by first | exact hB _ _ | exact hB0 _ _ | exact hBt _ _ | exact ⟨by omega, by omega⟩) (fun h106 => ?_) (fun h106 => ?_)
          · skip
            refine pe_iload_n d_M_layOut_113 rfl ?_
            refine pe_iload d_M_layOut_114 rfl ?_
            refine pe_iadd d_M_layOut_116 ?_
            refine pe_istore_n d_M_layOut_117 ?_
            refine pe_iload d_M_layOut_118 rfl ?_
            refine pe_if_eq (t := 129) d_M_layOut_120 (by first | exact hB _ _ | exact hB0 _ _ | exact hBt _ _ | exact ⟨by omega, by omega⟩) (fun h120 => ?_) (fun h120 => ?_)
            · skip
              refine pe_iload_n d_M_layOut_129 rfl ?_
              refine pe_istore_n d_M_layOut_130 ?_
              have P37 : σ75 37 = σ57 37 := (f75 37 (by decide)).trans ((f72 37 (by decide)).trans (f64 37 (by decide)))
              have P38 : σ75 38 = σ64 38 := (f75 38 (by decide)).trans (f72 38 (by decide))
              have P39 : σ75 39 = σ72 39 := f75 39 (by decide)
              have Q38 : σ57 38 = τ 38 := f57 38 (by decide)
              have Q39 : σ64 39 = τ 39 := (f64 39 (by decide)).trans (f57 39 (by decide))
              have hgd2 : ∀ j, 0 ≤ j → j ≤ p → pe_bg (σ 30) (σ 29 1) j → (0 ≤ σ75 37 j ∧ σ75 37 j ≤ 500 ∧ 0 ≤ σ75 38 j ∧ 1 ≤ σ75 39 j ∧ σ75 38 j + σ75 39 j ≤ σ 29 21 ∧ (j < σ 29 1 → pe_wi (σ 30 j) → σ75 39 j = 2)) := by
                intro j h1 h2 hb
                by_cases e : j = p
                · subst e; rw [P37, P38, P39, e57, e64, e72]; exact ⟨by omega, by omega, by omega, by omega, by omega, hwi⟩
                · have q := hgd j h1 (by omega) hb
                  rw [P37, P38, P39, o57 j e, o64 j e, o72 j e, Q38, Q39]; exact q
              have hcv2 : ∀ k, 0 ≤ k → k < r2 + 1 → ∃ j, 0 ≤ j ∧ j ≤ p ∧ pe_bg (σ 30) (σ 29 1) j ∧ σ75 37 j = k := by
                intro k h1 h2
                by_cases e : k < R
                · obtain ⟨j, a1, a2, a3, a4⟩ := hcv k h1 e
                  exact ⟨j, a1, by omega, a3, by rw [P37, o57 j (by omega)]; exact a4⟩
                · exact ⟨p, by omega, by omega, hbp, by rw [P37, e57]; omega⟩
              refine pe_iload_n d_M_layOut_131 rfl ?_
              refine pe_aload_n d_M_layOut_132 rfl ?_
              refine pe_geti f_M_87 d_M_layOut_133 rfl rfl 1 rfl ?_
              refine pe_icmp_ne (t := 145) d_M_layOut_136 (by first | exact hB _ _ | exact hB0 _ _ | exact hBt _ _ | exact ⟨by omega, by omega⟩) (by first | exact hB _ _ | exact hB0 _ _ | exact hBt _ _ | exact ⟨by omega, by omega⟩) (fun h136 => ?_) (fun h136 => ?_)
              · skip
                refine pe_aload_n d_M_layOut_145 rfl ?_
                refine pe_iload_n d_M_layOut_146 rfl ?_
                refine pe_v1p d_M_layOut_147 c_M_107 i_M_after s_M_after rfl rfl (t_M_after hB (by omega) (by omega)) (fun z147 hz147 => ?_)
                have w30b : σ75 30 = σ 30 := ((f75 30 (by decide)).trans ((f72 30 (by decide)).trans ((f64 30 (by decide)).trans ((f57 30 (by decide)).trans (hfr 30 (by decide))))))
                have w1b : σ75 29 1 = σ 29 1 := by omega
                refine pe_istore_n d_M_layOut_150 ?_
                refine pe_goto (t := 6) d_M_layOut_151 ?_
                (first
                | (refine pe_drop 4 (pe_drop 5 ?_); exact ih (_, _, _, r2 + 1, _) ⟨hB, (fun b hb => (f75 b (by simp at hb ⊢; try omega)).trans ((f72 b (by simp at hb ⊢; try omega)).trans ((f64 b (by simp at hb ⊢; try omega)).trans ((f57 b (by simp at hb ⊢; try omega)).trans (hfr b (by simp at hb ⊢; try omega)))))), (fun j hj => (o75 j (by simp at hj ⊢; try omega)).trans ((congrFun (f72 29 (by decide)) j).trans ((congrFun (f64 29 (by decide)) j).trans ((congrFun (f57 29 (by decide)) j).trans (hor j (by simp at hj ⊢; try omega)))))), fun q => by (try dsimp only at q); omega, fun j h1 h2 hb => hgd2 j h1 (by (try dsimp only at *); omega) hb, fun k h1 h2 => by (try dsimp only at *); (obtain ⟨j, a1, a2, a3, a4⟩ := hcv2 k h1 h2); exact ⟨j, a1, by omega, a3, a4⟩, by (try dsimp only); omega⟩ (by (try dsimp only); omega))
                | (refine pe_drop 4 (pe_drop 5 ?_); exact ih (_, _, _, r2 + 1, _) ⟨hB, (fun b hb => (f75 b (by simp at hb ⊢; try omega)).trans ((f72 b (by simp at hb ⊢; try omega)).trans ((f64 b (by simp at hb ⊢; try omega)).trans ((f57 b (by simp at hb ⊢; try omega)).trans (hfr b (by simp at hb ⊢; try omega)))))), (fun j hj => (o75 j (by simp at hj ⊢; try omega)).trans ((congrFun (f72 29 (by decide)) j).trans ((congrFun (f64 29 (by decide)) j).trans ((congrFun (f57 29 (by decide)) j).trans (hor j (by simp at hj ⊢; try omega)))))), fun q => by rw [w30b, w1b] at hz147; exact hz147.2.1, fun j h1 h2 hb => hgd2 j h1 (by (try dsimp only at *); (by_cases e : j ≤ p); exact e; exact absurd hb (by rw [w30b, w1b] at hz147; exact hz147.2.2 j (by omega) h2)) hb, fun k h1 h2 => by (try dsimp only at *); (obtain ⟨j, a1, a2, a3, a4⟩ := hcv2 k h1 h2); exact ⟨j, a1, by omega, a3, a4⟩, by (try dsimp only); omega⟩ (by (try dsimp only); omega)))
              · skip
                refine pe_iload_n d_M_layOut_139 rfl ?_
                refine pe_iconst d_M_layOut_140 ?_
                refine pe_iadd d_M_layOut_141 ?_
                refine pe_goto (t := 150) d_M_layOut_142 ?_
                have w30b : σ75 30 = σ 30 := ((f75 30 (by decide)).trans ((f72 30 (by decide)).trans ((f64 30 (by decide)).trans ((f57 30 (by decide)).trans (hfr 30 (by decide))))))
                have w1b : σ75 29 1 = σ 29 1 := by omega
                refine pe_istore_n d_M_layOut_150 ?_
                refine pe_goto (t := 6) d_M_layOut_151 ?_
                (first
                | (refine pe_drop 4 (pe_drop 5 ?_); exact ih (_, _, _, r2 + 1, _) ⟨hB, (fun b hb => (f75 b (by simp at hb ⊢; try omega)).trans ((f72 b (by simp at hb ⊢; try omega)).trans ((f64 b (by simp at hb ⊢; try omega)).trans ((f57 b (by simp at hb ⊢; try omega)).trans (hfr b (by simp at hb ⊢; try omega)))))), (fun j hj => (o75 j (by simp at hj ⊢; try omega)).trans ((congrFun (f72 29 (by decide)) j).trans ((congrFun (f64 29 (by decide)) j).trans ((congrFun (f57 29 (by decide)) j).trans (hor j (by simp at hj ⊢; try omega)))))), fun q => by (try dsimp only at q); omega, fun j h1 h2 hb => hgd2 j h1 (by (try dsimp only at *); omega) hb, fun k h1 h2 => by (try dsimp only at *); (obtain ⟨j, a1, a2, a3, a4⟩ := hcv2 k h1 h2); exact ⟨j, a1, by omega, a3, a4⟩, by (try dsimp only); omega⟩ (by (try dsimp only); omega))
                | (refine pe_drop 4 (pe_drop 5 ?_); exact ih (_, _, _, r2 + 1, _) ⟨hB, (fun b hb => (f75 b (by simp at hb ⊢; try omega)).trans ((f72 b (by simp at hb ⊢; try omega)).trans ((f64 b (by simp at hb ⊢; try omega)).trans ((f57 b (by simp at hb ⊢; try omega)).trans (hfr b (by simp at hb ⊢; try omega)))))), (fun j hj => (o75 j (by simp at hj ⊢; try omega)).trans ((congrFun (f72 29 (by decide)) j).trans ((congrFun (f64 29 (by decide)) j).trans ((congrFun (f57 29 (by decide)) j).trans (hor j (by simp at hj ⊢; try omega)))))), fun q => by rw [w30b, w1b] at hz147; exact hz147.2.1, fun j h1 h2 hb => hgd2 j h1 (by (try dsimp only at *); (by_cases e : j ≤ p); exact e; exact absurd hb (by rw [w30b, w1b] at hz147; exact hz147.2.2 j (by omega) h2)) hb, fun k h1 h2 => by (try dsimp only at *); (obtain ⟨j, a1, a2, a3, a4⟩ := hcv2 k h1 h2); exact ⟨j, a1, by omega, a3, a4⟩, by (try dsimp only); omega⟩ (by (try dsimp only); omega)))
            · skip
              refine pe_iload_n d_M_layOut_123 rfl ?_
              refine pe_iconst d_M_layOut_124 ?_
              refine pe_iadd d_M_layOut_125 ?_
              refine pe_goto (t := 130) d_M_layOut_126 ?_
              refine pe_istore_n d_M_layOut_130 ?_
              have P37 : σ75 37 = σ57 37 := (f75 37 (by decide)).trans ((f72 37 (by decide)).trans (f64 37 (by decide)))
              have P38 : σ75 38 = σ64 38 := (f75 38 (by decide)).trans (f72 38 (by decide))
              have P39 : σ75 39 = σ72 39 := f75 39 (by decide)
              have Q38 : σ57 38 = τ 38 := f57 38 (by decide)
              have Q39 : σ64 39 = τ 39 := (f64 39 (by decide)).trans (f57 39 (by decide))
              have hgd2 : ∀ j, 0 ≤ j → j ≤ p → pe_bg (σ 30) (σ 29 1) j → (0 ≤ σ75 37 j ∧ σ75 37 j ≤ 500 ∧ 0 ≤ σ75 38 j ∧ 1 ≤ σ75 39 j ∧ σ75 38 j + σ75 39 j ≤ σ 29 21 ∧ (j < σ 29 1 → pe_wi (σ 30 j) → σ75 39 j = 2)) := by
                intro j h1 h2 hb
                by_cases e : j = p
                · subst e; rw [P37, P38, P39, e57, e64, e72]; exact ⟨by omega, by omega, by omega, by omega, by omega, hwi⟩
                · have q := hgd j h1 (by omega) hb
                  rw [P37, P38, P39, o57 j e, o64 j e, o72 j e, Q38, Q39]; exact q
              have hcv2 : ∀ k, 0 ≤ k → k < r2 + 1 → ∃ j, 0 ≤ j ∧ j ≤ p ∧ pe_bg (σ 30) (σ 29 1) j ∧ σ75 37 j = k := by
                intro k h1 h2
                by_cases e : k < R
                · obtain ⟨j, a1, a2, a3, a4⟩ := hcv k h1 e
                  exact ⟨j, a1, by omega, a3, by rw [P37, o57 j (by omega)]; exact a4⟩
                · exact ⟨p, by omega, by omega, hbp, by rw [P37, e57]; omega⟩
              refine pe_iload_n d_M_layOut_131 rfl ?_
              refine pe_aload_n d_M_layOut_132 rfl ?_
              refine pe_geti f_M_87 d_M_layOut_133 rfl rfl 1 rfl ?_
              refine pe_icmp_ne (t := 145) d_M_layOut_136 (by first | exact hB _ _ | exact hB0 _ _ | exact hBt _ _ | exact ⟨by omega, by omega⟩) (by first | exact hB _ _ | exact hB0 _ _ | exact hBt _ _ | exact ⟨by omega, by omega⟩) (fun h136 => ?_) (fun h136 => ?_)
              · skip
                refine pe_aload_n d_M_layOut_145 rfl ?_
                refine pe_iload_n d_M_layOut_146 rfl ?_
                refine pe_v1p d_M_layOut_147 c_M_107 i_M_after s_M_after rfl rfl (t_M_after hB (by omega) (by omega)) (fun z147 hz147 => ?_)
                have w30b : σ75 30 = σ 30 := ((f75 30 (by decide)).trans ((f72 30 (by decide)).trans ((f64 30 (by decide)).trans ((f57 30 (by decide)).trans (hfr 30 (by decide))))))
                have w1b : σ75 29 1 = σ 29 1 := by omega
                refine pe_istore_n d_M_layOut_150 ?_
                refine pe_goto (t := 6) d_M_layOut_151 ?_
                (first
                | (refine pe_drop 4 (pe_drop 5 ?_); exact ih (_, _, _, r2 + 1, _) ⟨hB, (fun b hb => (f75 b (by simp at hb ⊢; try omega)).trans ((f72 b (by simp at hb ⊢; try omega)).trans ((f64 b (by simp at hb ⊢; try omega)).trans ((f57 b (by simp at hb ⊢; try omega)).trans (hfr b (by simp at hb ⊢; try omega)))))), (fun j hj => (o75 j (by simp at hj ⊢; try omega)).trans ((congrFun (f72 29 (by decide)) j).trans ((congrFun (f64 29 (by decide)) j).trans ((congrFun (f57 29 (by decide)) j).trans (hor j (by simp at hj ⊢; try omega)))))), fun q => by (try dsimp only at q); omega, fun j h1 h2 hb => hgd2 j h1 (by (try dsimp only at *); omega) hb, fun k h1 h2 => by (try dsimp only at *); (obtain ⟨j, a1, a2, a3, a4⟩ := hcv2 k h1 h2); exact ⟨j, a1, by omega, a3, a4⟩, by (try dsimp only); omega⟩ (by (try dsimp only); omega))
                | (refine pe_drop 4 (pe_drop 5 ?_); exact ih (_, _, _, r2 + 1, _) ⟨hB, (fun b hb => (f75 b (by simp at hb ⊢; try omega)).trans ((f72 b (by simp at hb ⊢; try omega)).trans ((f64 b (by simp at hb ⊢; try omega)).trans ((f57 b (by simp at hb ⊢; try omega)).trans (hfr b (by simp at hb ⊢; try omega)))))), (fun j hj => (o75 j (by simp at hj ⊢; try omega)).trans ((congrFun (f72 29 (by decide)) j).trans ((congrFun (f64 29 (by decide)) j).trans ((congrFun (f57 29 (by decide)) j).trans (hor j (by simp at hj ⊢; try omega)))))), fun q => by rw [w30b, w1b] at hz147; exact hz147.2.1, fun j h1 h2 hb => hgd2 j h1 (by (try dsimp only at *); (by_cases e : j ≤ p); exact e; exact absurd hb (by rw [w30b, w1b] at hz147; exact hz147.2.2 j (by omega) h2)) hb, fun k h1 h2 => by (try dsimp only at *); (obtain ⟨j, a1, a2, a3, a4⟩ := hcv2 k h1 h2); exact ⟨j, a1, by omega, a3, a4⟩, by (try dsimp only); omega⟩ (by (try dsimp only); omega)))
              · skip
                refine pe_iload_n d_M_layOut_139 rfl ?_
                refine pe_iconst d_M_layOut_140 ?_
                refine pe_iadd d_M_layOut_141 ?_
                refine pe_goto (t := 150) d_M_layOut_142 ?_
                have w30b : σ75 30 = σ 30 := ((f75 30 (by decide)).trans ((f72 30 (by decide)).trans ((f64 30 (by decide)).trans ((f57 30 (by decide)).trans (hfr 30 (by decide))))))
                have w1b : σ75 29 1 = σ 29 1 := by omega
                refine pe_istore_n d_M_layOut_150 ?_
                refine pe_goto (t := 6) d_M_layOut_151 ?_
                (first
                | (refine pe_drop 4 (pe_drop 5 ?_); exact ih (_, _, _, r2 + 1, _) ⟨hB, (fun b hb => (f75 b (by simp at hb ⊢; try omega)).trans ((f72 b (by simp at hb ⊢; try omega)).trans ((f64 b (by simp at hb ⊢; try omega)).trans ((f57 b (by simp at hb ⊢; try omega)).trans (hfr b (by simp at hb ⊢; try omega)))))), (fun j hj => (o75 j (by simp at hj ⊢; try omega)).trans ((congrFun (f72 29 (by decide)) j).trans ((congrFun (f64 29 (by decide)) j).trans ((congrFun (f57 29 (by decide)) j).trans (hor j (by simp at hj ⊢; try omega)))))), fun q => by (try dsimp only at q); omega, fun j h1 h2 hb => hgd2 j h1 (by (try dsimp only at *); omega) hb, fun k h1 h2 => by (try dsimp only at *); (obtain ⟨j, a1, a2, a3, a4⟩ := hcv2 k h1 h2); exact ⟨j, a1, by omega, a3, a4⟩, by (try dsimp only); omega⟩ (by (try dsimp only); omega))
                | (refine pe_drop 4 (pe_drop 5 ?_); exact ih (_, _, _, r2 + 1, _) ⟨hB, (fun b hb => (f75 b (by simp at hb ⊢; try omega)).trans ((f72 b (by simp at hb ⊢; try omega)).trans ((f64 b (by simp at hb ⊢; try omega)).trans ((f57 b (by simp at hb ⊢; try omega)).trans (hfr b (by simp at hb ⊢; try omega)))))), (fun j hj => (o75 j (by simp at hj ⊢; try omega)).trans ((congrFun (f72 29 (by decide)) j).trans ((congrFun (f64 29 (by decide)) j).trans ((congrFun (f57 29 (by decide)) j).trans (hor j (by simp at hj ⊢; try omega)))))), fun q => by rw [w30b, w1b] at hz147; exact hz147.2.1, fun j h1 h2 hb => hgd2 j h1 (by (try dsimp only at *); (by_cases e : j ≤ p); exact e; exact absurd hb (by rw [w30b, w1b] at hz147; exact hz147.2.2 j (by omega) h2)) hb, fun k h1 h2 => by (try dsimp only at *); (obtain ⟨j, a1, a2, a3, a4⟩ := hcv2 k h1 h2); exact ⟨j, a1, by omega, a3, a4⟩, by (try dsimp only); omega⟩ (by (try dsimp only); omega)))
          · skip
            refine pe_iconst d_M_layOut_109 ?_
            refine pe_goto (t := 117) d_M_layOut_110 ?_
            refine pe_istore_n d_M_layOut_117 ?_
            refine pe_iload d_M_layOut_118 rfl ?_
            refine pe_if_eq (t := 129) d_M_layOut_120 (by first | exact hB _ _ | exact hB0 _ _ | exact hBt _ _ | exact ⟨by omega, by omega⟩) (fun h120 => ?_) (fun h120 => ?_)
            · skip
              refine pe_iload_n d_M_layOut_129 rfl ?_
              refine pe_istore_n d_M_layOut_130 ?_
              have P37 : σ75 37 = σ57 37 := (f75 37 (by decide)).trans ((f72 37 (by decide)).trans (f64 37 (by decide)))
              have P38 : σ75 38 = σ64 38 := (f75 38 (by decide)).trans (f72 38 (by decide))
              have P39 : σ75 39 = σ72 39 := f75 39 (by decide)
              have Q38 : σ57 38 = τ 38 := f57 38 (by decide)
              have Q39 : σ64 39 = τ 39 := (f64 39 (by decide)).trans (f57 39 (by decide))
              have hgd2 : ∀ j, 0 ≤ j → j ≤ p → pe_bg (σ 30) (σ 29 1) j → (0 ≤ σ75 37 j ∧ σ75 37 j ≤ 500 ∧ 0 ≤ σ75 38 j ∧ 1 ≤ σ75 39 j ∧ σ75 38 j + σ75 39 j ≤ σ 29 21 ∧ (j < σ 29 1 → pe_wi (σ 30 j) → σ75 39 j = 2)) := by
                intro j h1 h2 hb
                by_cases e : j = p
                · subst e; rw [P37, P38, P39, e57, e64, e72]; exact ⟨by omega, by omega, by omega, by omega, by omega, hwi⟩
                · have q := hgd j h1 (by omega) hb
                  rw [P37, P38, P39, o57 j e, o64 j e, o72 j e, Q38, Q39]; exact q
              have hcv2 : ∀ k, 0 ≤ k → k < r2 + 1 → ∃ j, 0 ≤ j ∧ j ≤ p ∧ pe_bg (σ 30) (σ 29 1) j ∧ σ75 37 j = k := by
                intro k h1 h2
                by_cases e : k < R
                · obtain ⟨j, a1, a2, a3, a4⟩ := hcv k h1 e
                  exact ⟨j, a1, by omega, a3, by rw [P37, o57 j (by omega)]; exact a4⟩
                · exact ⟨p, by omega, by omega, hbp, by rw [P37, e57]; omega⟩
              refine pe_iload_n d_M_layOut_131 rfl ?_
              refine pe_aload_n d_M_layOut_132 rfl ?_
              refine pe_geti f_M_87 d_M_layOut_133 rfl rfl 1 rfl ?_
              refine pe_icmp_ne (t := 145) d_M_layOut_136 (by first | exact hB _ _ | exact hB0 _ _ | exact hBt _ _ | exact ⟨by omega, by omega⟩) (by first | exact hB _ _ | exact hB0 _ _ | exact hBt _ _ | exact ⟨by omega, by omega⟩) (fun h136 => ?_) (fun h136 => ?_)
              · skip
                refine pe_aload_n d_M_layOut_145 rfl ?_
                refine pe_iload_n d_M_layOut_146 rfl ?_
                refine pe_v1p d_M_layOut_147 c_M_107 i_M_after s_M_after rfl rfl (t_M_after hB (by omega) (by omega)) (fun z147 hz147 => ?_)
                have w30b : σ75 30 = σ 30 := ((f75 30 (by decide)).trans ((f72 30 (by decide)).trans ((f64 30 (by decide)).trans ((f57 30 (by decide)).trans (hfr 30 (by decide))))))
                have w1b : σ75 29 1 = σ 29 1 := by omega
                refine pe_istore_n d_M_layOut_150 ?_
                refine pe_goto (t := 6) d_M_layOut_151 ?_
                (first
                | (refine pe_drop 4 (pe_drop 5 ?_); exact ih (_, _, _, r2 + 1, _) ⟨hB, (fun b hb => (f75 b (by simp at hb ⊢; try omega)).trans ((f72 b (by simp at hb ⊢; try omega)).trans ((f64 b (by simp at hb ⊢; try omega)).trans ((f57 b (by simp at hb ⊢; try omega)).trans (hfr b (by simp at hb ⊢; try omega)))))), (fun j hj => (o75 j (by simp at hj ⊢; try omega)).trans ((congrFun (f72 29 (by decide)) j).trans ((congrFun (f64 29 (by decide)) j).trans ((congrFun (f57 29 (by decide)) j).trans (hor j (by simp at hj ⊢; try omega)))))), fun q => by (try dsimp only at q); omega, fun j h1 h2 hb => hgd2 j h1 (by (try dsimp only at *); omega) hb, fun k h1 h2 => by (try dsimp only at *); (obtain ⟨j, a1, a2, a3, a4⟩ := hcv2 k h1 h2); exact ⟨j, a1, by omega, a3, a4⟩, by (try dsimp only); omega⟩ (by (try dsimp only); omega))
                | (refine pe_drop 4 (pe_drop 5 ?_); exact ih (_, _, _, r2 + 1, _) ⟨hB, (fun b hb => (f75 b (by simp at hb ⊢; try omega)).trans ((f72 b (by simp at hb ⊢; try omega)).trans ((f64 b (by simp at hb ⊢; try omega)).trans ((f57 b (by simp at hb ⊢; try omega)).trans (hfr b (by simp at hb ⊢; try omega)))))), (fun j hj => (o75 j (by simp at hj ⊢; try omega)).trans ((congrFun (f72 29 (by decide)) j).trans ((congrFun (f64 29 (by decide)) j).trans ((congrFun (f57 29 (by decide)) j).trans (hor j (by simp at hj ⊢; try omega)))))), fun q => by rw [w30b, w1b] at hz147; exact hz147.2.1, fun j h1 h2 hb => hgd2 j h1 (by (try dsimp only at *); (by_cases e : j ≤ p); exact e; exact absurd hb (by rw [w30b, w1b] at hz147; exact hz147.2.2 j (by omega) h2)) hb, fun k h1 h2 => by (try dsimp only at *); (obtain ⟨j, a1, a2, a3, a4⟩ := hcv2 k h1 h2); exact ⟨j, a1, by omega, a3, a4⟩, by (try dsimp only); omega⟩ (by (try dsimp only); omega)))
              · skip
                refine pe_iload_n d_M_layOut_139 rfl ?_
                refine pe_iconst d_M_layOut_140 ?_
                refine pe_iadd d_M_layOut_141 ?_
                refine pe_goto (t := 150) d_M_layOut_142 ?_
                have w30b : σ75 30 = σ 30 := ((f75 30 (by decide)).trans ((f72 30 (by decide)).trans ((f64 30 (by decide)).trans ((f57 30 (by decide)).trans (hfr 30 (by decide))))))
                have w1b : σ75 29 1 = σ 29 1 := by omega
                refine pe_istore_n d_M_layOut_150 ?_
                refine pe_goto (t := 6) d_M_layOut_151 ?_
                (first
                | (refine pe_drop 4 (pe_drop 5 ?_); exact ih (_, _, _, r2 + 1, _) ⟨hB, (fun b hb => (f75 b (by simp at hb ⊢; try omega)).trans ((f72 b (by simp at hb ⊢; try omega)).trans ((f64 b (by simp at hb ⊢; try omega)).trans ((f57 b (by simp at hb ⊢; try omega)).trans (hfr b (by simp at hb ⊢; try omega)))))), (fun j hj => (o75 j (by simp at hj ⊢; try omega)).trans ((congrFun (f72 29 (by decide)) j).trans ((congrFun (f64 29 (by decide)) j).trans ((congrFun (f57 29 (by decide)) j).trans (hor j (by simp at hj ⊢; try omega)))))), fun q => by (try dsimp only at q); omega, fun j h1 h2 hb => hgd2 j h1 (by (try dsimp only at *); omega) hb, fun k h1 h2 => by (try dsimp only at *); (obtain ⟨j, a1, a2, a3, a4⟩ := hcv2 k h1 h2); exact ⟨j, a1, by omega, a3, a4⟩, by (try dsimp only); omega⟩ (by (try dsimp only); omega))
                | (refine pe_drop 4 (pe_drop 5 ?_); exact ih (_, _, _, r2 + 1, _) ⟨hB, (fun b hb => (f75 b (by simp at hb ⊢; try omega)).trans ((f72 b (by simp at hb ⊢; try omega)).trans ((f64 b (by simp at hb ⊢; try omega)).trans ((f57 b (by simp at hb ⊢; try omega)).trans (hfr b (by simp at hb ⊢; try omega)))))), (fun j hj => (o75 j (by simp at hj ⊢; try omega)).trans ((congrFun (f72 29 (by decide)) j).trans ((congrFun (f64 29 (by decide)) j).trans ((congrFun (f57 29 (by decide)) j).trans (hor j (by simp at hj ⊢; try omega)))))), fun q => by rw [w30b, w1b] at hz147; exact hz147.2.1, fun j h1 h2 hb => hgd2 j h1 (by (try dsimp only at *); (by_cases e : j ≤ p); exact e; exact absurd hb (by rw [w30b, w1b] at hz147; exact hz147.2.2 j (by omega) h2)) hb, fun k h1 h2 => by (try dsimp only at *); (obtain ⟨j, a1, a2, a3, a4⟩ := hcv2 k h1 h2); exact ⟨j, a1, by omega, a3, a4⟩, by (try dsimp only); omega⟩ (by (try dsimp only); omega)))
            · skip
              refine pe_iload_n d_M_layOut_123 rfl ?_
              refine pe_iconst d_M_layOut_124 ?_
              refine pe_iadd d_M_layOut_125 ?_
              refine pe_goto (t := 130) d_M_layOut_126 ?_
              refine pe_istore_n d_M_layOut_130 ?_
              have P37 : σ75 37 = σ57 37 := (f75 37 (by decide)).trans ((f72 37 (by decide)).trans (f64 37 (by decide)))
              have P38 : σ75 38 = σ64 38 := (f75 38 (by decide)).trans (f72 38 (by decide))
              have P39 : σ75 39 = σ72 39 := f75 39 (by decide)
              have Q38 : σ57 38 = τ 38 := f57 38 (by decide)
              have Q39 : σ64 39 = τ 39 := (f64 39 (by decide)).trans (f57 39 (by decide))
              have hgd2 : ∀ j, 0 ≤ j → j ≤ p → pe_bg (σ 30) (σ 29 1) j → (0 ≤ σ75 37 j ∧ σ75 37 j ≤ 500 ∧ 0 ≤ σ75 38 j ∧ 1 ≤ σ75 39 j ∧ σ75 38 j + σ75 39 j ≤ σ 29 21 ∧ (j < σ 29 1 → pe_wi (σ 30 j) → σ75 39 j = 2)) := by
                intro j h1 h2 hb
                by_cases e : j = p
                · subst e; rw [P37, P38, P39, e57, e64, e72]; exact ⟨by omega, by omega, by omega, by omega, by omega, hwi⟩
                · have q := hgd j h1 (by omega) hb
                  rw [P37, P38, P39, o57 j e, o64 j e, o72 j e, Q38, Q39]; exact q
              have hcv2 : ∀ k, 0 ≤ k → k < r2 + 1 → ∃ j, 0 ≤ j ∧ j ≤ p ∧ pe_bg (σ 30) (σ 29 1) j ∧ σ75 37 j = k := by
                intro k h1 h2
                by_cases e : k < R
                · obtain ⟨j, a1, a2, a3, a4⟩ := hcv k h1 e
                  exact ⟨j, a1, by omega, a3, by rw [P37, o57 j (by omega)]; exact a4⟩
                · exact ⟨p, by omega, by omega, hbp, by rw [P37, e57]; omega⟩
              refine pe_iload_n d_M_layOut_131 rfl ?_
              refine pe_aload_n d_M_layOut_132 rfl ?_
              refine pe_geti f_M_87 d_M_layOut_133 rfl rfl 1 rfl ?_
              refine pe_icmp_ne (t := 145) d_M_layOut_136 (by first | exact hB _ _ | exact hB0 _ _ | exact hBt _ _ | exact ⟨by omega, by omega⟩) (by first | exact hB _ _ | exact hB0 _ _ | exact hBt _ _ | exact ⟨by omega, by omega⟩) (fun h136 => ?_) (fun h136 => ?_)
              · skip
                refine pe_aload_n d_M_layOut_145 rfl ?_
                refine pe_iload_n d_M_layOut_146 rfl ?_
                refine pe_v1p d_M_layOut_147 c_M_107 i_M_after s_M_after rfl rfl (t_M_after hB (by omega) (by omega)) (fun z147 hz147 => ?_)
                have w30b : σ75 30 = σ 30 := ((f75 30 (by decide)).trans ((f72 30 (by decide)).trans ((f64 30 (by decide)).trans ((f57 30 (by decide)).trans (hfr 30 (by decide))))))
                have w1b : σ75 29 1 = σ 29 1 := by omega
                refine pe_istore_n d_M_layOut_150 ?_
                refine pe_goto (t := 6) d_M_layOut_151 ?_
                (first
                | (refine pe_drop 4 (pe_drop 5 ?_); exact ih (_, _, _, r2 + 1, _) ⟨hB, (fun b hb => (f75 b (by simp at hb ⊢; try omega)).trans ((f72 b (by simp at hb ⊢; try omega)).trans ((f64 b (by simp at hb ⊢; try omega)).trans ((f57 b (by simp at hb ⊢; try omega)).trans (hfr b (by simp at hb ⊢; try omega)))))), (fun j hj => (o75 j (by simp at hj ⊢; try omega)).trans ((congrFun (f72 29 (by decide)) j).trans ((congrFun (f64 29 (by decide)) j).trans ((congrFun (f57 29 (by decide)) j).trans (hor j (by simp at hj ⊢; try omega)))))), fun q => by (try dsimp only at q); omega, fun j h1 h2 hb => hgd2 j h1 (by (try dsimp only at *); omega) hb, fun k h1 h2 => by (try dsimp only at *); (obtain ⟨j, a1, a2, a3, a4⟩ := hcv2 k h1 h2); exact ⟨j, a1, by omega, a3, a4⟩, by (try dsimp only); omega⟩ (by (try dsimp only); omega))
                | (refine pe_drop 4 (pe_drop 5 ?_); exact ih (_, _, _, r2 + 1, _) ⟨hB, (fun b hb => (f75 b (by simp at hb ⊢; try omega)).trans ((f72 b (by simp at hb ⊢; try omega)).trans ((f64 b (by simp at hb ⊢; try omega)).trans ((f57 b (by simp at hb ⊢; try omega)).trans (hfr b (by simp at hb ⊢; try omega)))))), (fun j hj => (o75 j (by simp at hj ⊢; try omega)).trans ((congrFun (f72 29 (by decide)) j).trans ((congrFun (f64 29 (by decide)) j).trans ((congrFun (f57 29 (by decide)) j).trans (hor j (by simp at hj ⊢; try omega)))))), fun q => by rw [w30b, w1b] at hz147; exact hz147.2.1, fun j h1 h2 hb => hgd2 j h1 (by (try dsimp only at *); (by_cases e : j ≤ p); exact e; exact absurd hb (by rw [w30b, w1b] at hz147; exact hz147.2.2 j (by omega) h2)) hb, fun k h1 h2 => by (try dsimp only at *); (obtain ⟨j, a1, a2, a3, a4⟩ := hcv2 k h1 h2); exact ⟨j, a1, by omega, a3, a4⟩, by (try dsimp only); omega⟩ (by (try dsimp only); omega)))
              · skip
                refine pe_iload_n d_M_layOut_139 rfl ?_
                refine pe_iconst d_M_layOut_140 ?_
                refine pe_iadd d_M_layOut_141 ?_
                refine pe_goto (t := 150) d_M_layOut_142 ?_
                have w30b : σ75 30 = σ 30 := ((f75 30 (by decide)).trans ((f72 30 (by decide)).trans ((f64 30 (by decide)).trans ((f57 30 (by decide)).trans (hfr 30 (by decide))))))
                have w1b : σ75 29 1 = σ 29 1 := by omega
                refine pe_istore_n d_M_layOut_150 ?_
                refine pe_goto (t := 6) d_M_layOut_151 ?_
                (first
                | (refine pe_drop 4 (pe_drop 5 ?_); exact ih (_, _, _, r2 + 1, _) ⟨hB, (fun b hb => (f75 b (by simp at hb ⊢; try omega)).trans ((f72 b (by simp at hb ⊢; try omega)).trans ((f64 b (by simp at hb ⊢; try omega)).trans ((f57 b (by simp at hb ⊢; try omega)).trans (hfr b (by simp at hb ⊢; try omega)))))), (fun j hj => (o75 j (by simp at hj ⊢; try omega)).trans ((congrFun (f72 29 (by decide)) j).trans ((congrFun (f64 29 (by decide)) j).trans ((congrFun (f57 29 (by decide)) j).trans (hor j (by simp at hj ⊢; try omega)))))), fun q => by (try dsimp only at q); omega, fun j h1 h2 hb => hgd2 j h1 (by (try dsimp only at *); omega) hb, fun k h1 h2 => by (try dsimp only at *); (obtain ⟨j, a1, a2, a3, a4⟩ := hcv2 k h1 h2); exact ⟨j, a1, by omega, a3, a4⟩, by (try dsimp only); omega⟩ (by (try dsimp only); omega))
                | (refine pe_drop 4 (pe_drop 5 ?_); exact ih (_, _, _, r2 + 1, _) ⟨hB, (fun b hb => (f75 b (by simp at hb ⊢; try omega)).trans ((f72 b (by simp at hb ⊢; try omega)).trans ((f64 b (by simp at hb ⊢; try omega)).trans ((f57 b (by simp at hb ⊢; try omega)).trans (hfr b (by simp at hb ⊢; try omega)))))), (fun j hj => (o75 j (by simp at hj ⊢; try omega)).trans ((congrFun (f72 29 (by decide)) j).trans ((congrFun (f64 29 (by decide)) j).trans ((congrFun (f57 29 (by decide)) j).trans (hor j (by simp at hj ⊢; try omega)))))), fun q => by rw [w30b, w1b] at hz147; exact hz147.2.1, fun j h1 h2 hb => hgd2 j h1 (by (try dsimp only at *); (by_cases e : j ≤ p); exact e; exact absurd hb (by rw [w30b, w1b] at hz147; exact hz147.2.2 j (by omega) h2)) hb, fun k h1 h2 => by (try dsimp only at *); (obtain ⟨j, a1, a2, a3, a4⟩ := hcv2 k h1 h2); exact ⟨j, a1, by omega, a3, a4⟩, by (try dsimp only); omega⟩ (by (try dsimp only); omega)))
    refine pe_iload_n d_M_layOut_6 rfl ?_
    refine pe_aload_n d_M_layOut_7 rfl ?_
    refine pe_geti f_M_87 d_M_layOut_8 rfl rfl 1 rfl ?_
    refine pe_icmp_gt (t := 154) d_M_layOut_11 (by first | exact hB _ _ | exact hB0 _ _ | exact hBt _ _ | exact ⟨by omega, by omega⟩) (by first | exact hB _ _ | exact hB0 _ _ | exact hBt _ _ | exact ⟨by omega, by omega⟩) (fun h11 => ?_) (fun h11 => ?_)
    · skip
      refine pe_rv d_M_layOut_154 ?_
      have w26 : 0 ≤ τ 29 26 ∧ τ 29 26 + 1 = R := by omega
      refine ⟨hB, (fun b hb => hfr b (by simp at hb ⊢; try omega)), (fun j hj => hor j (by simp at hj ⊢; try omega)), ?_, by omega, ?_⟩
      · intro j h1 h2 hb
        rw [w1] at h2 hb
        rw [w30] at hb ⊢
        rw [w1, w21]
        exact hgd j h1 (by omega) hb
      · intro k h1 h2
        obtain ⟨j, a1, a2, a3, a4⟩ := hcv k h1 (by omega)
        rw [w1, w30]
        exact ⟨j, a1, by omega, a3, a4⟩
    · skip
      refine pe_aload_n d_M_layOut_14 rfl ?_
      refine pe_iload_n d_M_layOut_15 rfl ?_
      refine pe_iload_n d_M_layOut_16 rfl ?_
      refine pe_v2p d_M_layOut_17 c_M_100 i_M_widthOf s_M_widthOf rfl rfl (t_M_widthOf hB (by omega) (by omega) (by omega) (by omega)) (fun z17 hz17 => ?_)
      refine pe_istore d_M_layOut_20 ?_
      refine pe_iload d_M_layOut_22 rfl ?_
      refine pe_if_eq (t := 38) d_M_layOut_24 (by first | exact hB _ _ | exact hB0 _ _ | exact hBt _ _ | exact ⟨by omega, by omega⟩) (fun h24 => ?_) (fun h24 => ?_)
      · skip
        refine pe_iinc d_M_layOut_38 rfl ?_
        refine pe_iconst d_M_layOut_41 ?_
        refine pe_istore_n d_M_layOut_42 ?_
        refine pe_aload_n d_M_layOut_43 rfl ?_
        refine pe_iload_n d_M_layOut_44 rfl ?_
        refine pe_iconst d_M_layOut_45 ?_
        refine pe_v2p d_M_layOut_46 c_M_100 i_M_widthOf s_M_widthOf rfl rfl (t_M_widthOf hB (by omega) (by omega) (by omega) (by omega)) (fun z46 hz46 => ?_)
        refine pe_istore d_M_layOut_49 ?_
        exact J51 (_, _, _) ⟨by (try dsimp only); omega, by (try dsimp only); omega, by (try dsimp only); omega, by (try dsimp only); omega, by (try dsimp only); intro q1 q2; first | exact hz46.2.2.2 (by omega) (by rw [w30]; exact q2) | exact hz17.2.2.2 (by omega) (by rw [w30]; exact q2)⟩
      · skip
        refine pe_iload_n d_M_layOut_27 rfl ?_
        refine pe_iload d_M_layOut_28 rfl ?_
        refine pe_iadd d_M_layOut_30 ?_
        refine pe_aload_n d_M_layOut_31 rfl ?_
        refine pe_geti f_M_78 d_M_layOut_32 rfl rfl 21 rfl ?_
        refine pe_icmp_le (t := 51) d_M_layOut_35 (by first | exact hB _ _ | exact hB0 _ _ | exact hBt _ _ | exact ⟨by omega, by omega⟩) (by first | exact hB _ _ | exact hB0 _ _ | exact hBt _ _ | exact ⟨by omega, by omega⟩) (fun h35 => ?_) (fun h35 => ?_)
        · skip
          exact J51 (_, _, _) ⟨by (try dsimp only); omega, by (try dsimp only); omega, by (try dsimp only); omega, by (try dsimp only); omega, by (try dsimp only); intro q1 q2; first | exact hz46.2.2.2 (by omega) (by rw [w30]; exact q2) | exact hz17.2.2.2 (by omega) (by rw [w30]; exact q2)⟩
        · skip
          refine pe_iinc d_M_layOut_38 rfl ?_
          refine pe_iconst d_M_layOut_41 ?_
          refine pe_istore_n d_M_layOut_42 ?_
          refine pe_aload_n d_M_layOut_43 rfl ?_
          refine pe_iload_n d_M_layOut_44 rfl ?_
          refine pe_iconst d_M_layOut_45 ?_
          refine pe_v2p d_M_layOut_46 c_M_100 i_M_widthOf s_M_widthOf rfl rfl (t_M_widthOf hB (by omega) (by omega) (by omega) (by omega)) (fun z46 hz46 => ?_)
          refine pe_istore d_M_layOut_49 ?_
          exact J51 (_, _, _) ⟨by (try dsimp only); omega, by (try dsimp only); omega, by (try dsimp only); omega, by (try dsimp only); omega, by (try dsimp only); intro q1 q2; first | exact hz46.2.2.2 (by omega) (by rw [w30]; exact q2) | exact hz17.2.2.2 (by omega) (by rw [w30]; exact q2)⟩
  refine pe_iconst d_M_layOut_0 ?_
  refine pe_istore_n d_M_layOut_1 ?_
  refine pe_iconst d_M_layOut_2 ?_
  refine pe_istore_n d_M_layOut_3 ?_
  refine pe_iconst d_M_layOut_4 ?_
  refine pe_istore_n d_M_layOut_5 ?_
  exact J6 (_, _, _, 0, _) ⟨hB, (fun b hb => rfl), (fun j hj => rfl), fun _ => pe_bg0 _ _, fun j h1 h2 => by (try dsimp only at *); omega, fun k h1 h2 => by (try dsimp only at *); omega, by (try dsimp only); omega⟩
