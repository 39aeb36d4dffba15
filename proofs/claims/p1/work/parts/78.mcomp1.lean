/-! p1: the reference composes the screen of an empty text, and draws it -/
theorem pe_w40 {f g : Int → Int} {b i k : Int} (h : (∀ j, 0 ≤ j → j < 192 → 32 ≤ f j ∧ f j ≤ 126) ∧ ∀ j, 0 ≤ j → j < b → f j = 32) (hi : b ≤ i) (e : g i = k) (hk : 32 ≤ k ∧ k ≤ 126) (o : ∀ j, j ≠ i → g j = f j) : (∀ j, 0 ≤ j → j < 192 → 32 ≤ g j ∧ g j ≤ 126) ∧ ∀ j, 0 ≤ j → j < b → g j = 32 := by
  constructor
  · intro j h1 h2
    by_cases q : j = i
    · rw [q, e]; exact hk
    · rw [o j q]; exact h.1 j h1 h2
  · intro j h1 h2
    rw [o j (by omega)]; exact h.2 j h1 h2
theorem y_M_widthOf {σ : pe_H} {p c : Int} (hB : pe_B σ) (hl : σ 29 1 = 0) (hp : p = 0) : pe_M m_M_widthOf [pe_r 29, pe_i p, pe_i c] σ (pe_qp σ (fun z => z = 1)) := by
  refine pe_in0 (lv := [some (pe_r 29), some (pe_i p), some (pe_i c)]) ?_
  have hB0 := hB
  refine pe_iload_n d_M_widthOf_0 rfl ?_
  refine pe_aload_n d_M_widthOf_1 rfl ?_
  refine pe_geti f_M_87 d_M_widthOf_2 rfl rfl 1 rfl ?_
  refine pe_icmp_eq (t := 19) d_M_widthOf_5 (by first | exact hB _ _ | exact hB0 _ _ | exact hBt _ _ | exact ⟨by omega, by omega⟩) (by first | exact hB _ _ | exact hB0 _ _ | exact hBt _ _ | exact ⟨by omega, by omega⟩) (fun h5 => ?_) (fun h5 => ?_)
  · skip
    refine pe_iconst d_M_widthOf_19 ?_
    refine pe_ri d_M_widthOf_20 ?_
    exact ⟨rfl, rfl⟩
  · skip
    exfalso; omega
theorem y_M_layOut {σ : pe_H} (hB : pe_B σ) (hl : σ 29 1 = 0) (hc : 4 ≤ σ 29 21 ∧ σ 29 21 ≤ 24) : pe_M m_M_layOut [pe_r 29] σ (pe_qv (fun σ' => pe_B σ' ∧ (∀ b, b ∉ [29, 37, 38, 39] → σ' b = σ b) ∧ (∀ j, j ∉ ([26] : List Int) → σ' 29 j = σ 29 j) ∧ σ' 37 0 = 0 ∧ σ' 38 0 = 0 ∧ σ' 39 0 = 1)) := by
  refine pe_in0 (lv := [some (pe_r 29), none, none, none, none, none]) ?_
  have hB0 := hB
  have J6 : ∀ x : Int × Int × Int × pe_H, (pe_B x.2.2.2 ∧ (∀ b, b ∉ [29, 37, 38, 39] → x.2.2.2 b = σ b) ∧ (∀ j, j ∉ ([26] : List Int) → x.2.2.2 29 j = σ 29 j) ∧ ((x.2.2.1 = 0 ∧ x.1 = 0 ∧ x.2.1 = 0) ∨ (x.2.2.1 = 1 ∧ x.2.2.2 37 0 = 0 ∧ x.2.2.2 38 0 = 0 ∧ x.2.2.2 39 0 = 1 ∧ 0 ≤ x.1 ∧ x.1 ≤ 5 ∧ 0 ≤ x.2.1 ∧ x.2.1 ≤ 50))) → pe_G m_M_layOut 6 [some (pe_r 29), some (pe_i x.1), some (pe_i x.2.1), some (pe_i x.2.2.1), none, none] [] x.2.2.2 (pe_qv (fun σ' => pe_B σ' ∧ (∀ b, b ∉ [29, 37, 38, 39] → σ' b = σ b) ∧ (∀ j, j ∉ ([26] : List Int) → σ' 29 j = σ 29 j) ∧ σ' 37 0 = 0 ∧ σ' 38 0 = 0 ∧ σ' 39 0 = 1)) := by
    refine pe_loop (fun x : Int × Int × Int × pe_H => (10 - x.2.2.1).toNat) _ _ ?_
    intro x hI ih
    obtain ⟨r, q, p, τ⟩ := x
    dsimp only at hI ⊢
    obtain ⟨hB, hfr, hX⟩ := hI
    obtain ⟨hO, hX⟩ := hX
    have c1 := hO 1 (by decide)
    have c21 := hO 21 (by decide)
    have hBt := hB
    refine pe_iload_n d_M_layOut_6 rfl ?_
    refine pe_aload_n d_M_layOut_7 rfl ?_
    refine pe_geti f_M_87 d_M_layOut_8 rfl rfl 1 rfl ?_
    refine pe_icmp_gt (t := 154) d_M_layOut_11 (by first | exact hB _ _ | exact hB0 _ _ | exact hBt _ _ | exact ⟨by omega, by omega⟩) (by first | exact hB _ _ | exact hB0 _ _ | exact hBt _ _ | exact ⟨by omega, by omega⟩) (fun h11 => ?_) (fun h11 => ?_)
    · skip
      refine pe_rv d_M_layOut_154 ?_
      exact ⟨hB, (fun b hb => hfr b (by simp at hb ⊢; try omega)), (fun j hj => hO j hj), by omega⟩
    · skip
      have hp0 : p = 0 := by omega
      subst hp0
      refine pe_aload_n d_M_layOut_14 rfl ?_
      refine pe_iload_n d_M_layOut_15 rfl ?_
      refine pe_iload_n d_M_layOut_16 rfl ?_
      refine pe_v2p d_M_layOut_17 c_M_100 i_M_widthOf s_M_widthOf rfl rfl (y_M_widthOf hB (by omega) (by omega)) (fun z17 hz17 => ?_)
      refine pe_istore d_M_layOut_20 ?_
      refine pe_iload d_M_layOut_22 rfl ?_
      refine pe_if_eq (t := 38) d_M_layOut_24 (by first | exact hB _ _ | exact hB0 _ _ | exact hBt _ _ | exact ⟨by omega, by omega⟩) (fun h24 => ?_) (fun h24 => ?_)
      · skip
        exfalso; omega
      · skip
        refine pe_iload_n d_M_layOut_27 rfl ?_
        refine pe_iload d_M_layOut_28 rfl ?_
        refine pe_iadd d_M_layOut_30 ?_
        refine pe_aload_n d_M_layOut_31 rfl ?_
        refine pe_geti f_M_78 d_M_layOut_32 rfl rfl 21 rfl ?_
        refine pe_icmp_le (t := 51) d_M_layOut_35 (by first | exact hB _ _ | exact hB0 _ _ | exact hBt _ _ | exact ⟨by omega, by omega⟩) (by first | exact hB _ _ | exact hB0 _ _ | exact hBt _ _ | exact ⟨by omega, by omega⟩) (fun h35 => ?_) (fun h35 => ?_)
        · skip
          refine pe_aload_n d_M_layOut_51 rfl ?_
          refine pe_getr f_M_41 d_M_layOut_52 rfl rfl ?_
          refine pe_iload_n d_M_layOut_55 rfl ?_
          refine pe_iload_n d_M_layOut_56 rfl ?_
          refine pe_iastT d_M_layOut_57 rfl (by omega) (by omega) hB (by first | exact hB _ _ | exact hB0 _ _ | exact hBt _ _ | exact ⟨by omega, by omega⟩) (fun σ57 hB e57 o57 f57 => ?_)
          try have u57_0 : σ57 29 1 = τ 29 1 := by first | exact o57 1 (by decide) | exact congrFun (f57 29 (by decide)) 1
          try have u57_1 : σ57 29 21 = τ 29 21 := by first | exact o57 21 (by decide) | exact congrFun (f57 29 (by decide)) 21
          try have u57_2 : σ57 29 22 = τ 29 22 := by first | exact o57 22 (by decide) | exact congrFun (f57 29 (by decide)) 22
          try have u57_3 : σ57 29 27 = τ 29 27 := by first | exact o57 27 (by decide) | exact congrFun (f57 29 (by decide)) 27
          try have u57_4 : σ57 29 2 = τ 29 2 := by first | exact o57 2 (by decide) | exact congrFun (f57 29 (by decide)) 2
          try have u57_5 : σ57 29 3 = τ 29 3 := by first | exact o57 3 (by decide) | exact congrFun (f57 29 (by decide)) 3
          refine pe_aload_n d_M_layOut_58 rfl ?_
          refine pe_getr f_M_44 d_M_layOut_59 rfl rfl ?_
          refine pe_iload_n d_M_layOut_62 rfl ?_
          refine pe_iload_n d_M_layOut_63 rfl ?_
          refine pe_iastT d_M_layOut_64 rfl (by omega) (by omega) hB (by first | exact hB _ _ | exact hB0 _ _ | exact hBt _ _ | exact ⟨by omega, by omega⟩) (fun σ64 hB e64 o64 f64 => ?_)
          try have u64_0 : σ64 29 1 = σ57 29 1 := by first | exact o64 1 (by decide) | exact congrFun (f64 29 (by decide)) 1
          try have u64_1 : σ64 29 21 = σ57 29 21 := by first | exact o64 21 (by decide) | exact congrFun (f64 29 (by decide)) 21
          try have u64_2 : σ64 29 22 = σ57 29 22 := by first | exact o64 22 (by decide) | exact congrFun (f64 29 (by decide)) 22
          try have u64_3 : σ64 29 27 = σ57 29 27 := by first | exact o64 27 (by decide) | exact congrFun (f64 29 (by decide)) 27
          try have u64_4 : σ64 29 2 = σ57 29 2 := by first | exact o64 2 (by decide) | exact congrFun (f64 29 (by decide)) 2
          try have u64_5 : σ64 29 3 = σ57 29 3 := by first | exact o64 3 (by decide) | exact congrFun (f64 29 (by decide)) 3
          refine pe_aload_n d_M_layOut_65 rfl ?_
          refine pe_getr f_M_47 d_M_layOut_66 rfl rfl ?_
          refine pe_iload_n d_M_layOut_69 rfl ?_
          refine pe_iload d_M_layOut_70 rfl ?_
          refine pe_iastT d_M_layOut_72 rfl (by omega) (by omega) hB (by first | exact hB _ _ | exact hB0 _ _ | exact hBt _ _ | exact ⟨by omega, by omega⟩) (fun σ72 hB e72 o72 f72 => ?_)
          try have u72_0 : σ72 29 1 = σ64 29 1 := by first | exact o72 1 (by decide) | exact congrFun (f72 29 (by decide)) 1
          try have u72_1 : σ72 29 21 = σ64 29 21 := by first | exact o72 21 (by decide) | exact congrFun (f72 29 (by decide)) 21
          try have u72_2 : σ72 29 22 = σ64 29 22 := by first | exact o72 22 (by decide) | exact congrFun (f72 29 (by decide)) 22
          try have u72_3 : σ72 29 27 = σ64 29 27 := by first | exact o72 27 (by decide) | exact congrFun (f72 29 (by decide)) 27
          try have u72_4 : σ72 29 2 = σ64 29 2 := by first | exact o72 2 (by decide) | exact congrFun (f72 29 (by decide)) 2
          try have u72_5 : σ72 29 3 = σ64 29 3 := by first | exact o72 3 (by decide) | exact congrFun (f72 29 (by decide)) 3
          refine pe_aload_n d_M_layOut_73 rfl ?_
          refine pe_iload_n d_M_layOut_74 rfl ?_
          refine pe_putiT f_M_104 g_11_26 d_M_layOut_75 rfl rfl 26 rfl hB (by first | exact hB _ _ | exact hB0 _ _ | exact hBt _ _ | exact ⟨by omega, by omega⟩) (fun σ75 hB e75 o75 f75 => ?_)
          try have u75_0 : σ75 29 1 = σ72 29 1 := by first | exact o75 1 (by decide) | exact congrFun (f75 29 (by decide)) 1
          try have u75_1 : σ75 29 21 = σ72 29 21 := by first | exact o75 21 (by decide) | exact congrFun (f75 29 (by decide)) 21
          try have u75_2 : σ75 29 22 = σ72 29 22 := by first | exact o75 22 (by decide) | exact congrFun (f75 29 (by decide)) 22
          try have u75_3 : σ75 29 27 = σ72 29 27 := by first | exact o75 27 (by decide) | exact congrFun (f75 29 (by decide)) 27
          try have u75_4 : σ75 29 2 = σ72 29 2 := by first | exact o75 2 (by decide) | exact congrFun (f75 29 (by decide)) 2
          try have u75_5 : σ75 29 3 = σ72 29 3 := by first | exact o75 3 (by decide) | exact congrFun (f75 29 (by decide)) 3
          refine pe_iload_n d_M_layOut_78 rfl ?_
          refine pe_aload_n d_M_layOut_79 rfl ?_
          refine pe_geti f_M_87 d_M_layOut_80 rfl rfl 1 rfl ?_
          refine pe_icmp_ge (t := 101) d_M_layOut_83 (by first | exact hB _ _ | exact hB0 _ _ | exact hBt _ _ | exact ⟨by omega, by omega⟩) (by first | exact hB _ _ | exact hB0 _ _ | exact hBt _ _ | exact ⟨by omega, by omega⟩) (fun h83 => ?_) (fun h83 => ?_)
          · skip
            refine pe_iconst d_M_layOut_101 ?_
            refine pe_istore d_M_layOut_102 ?_
            refine pe_iload d_M_layOut_104 rfl ?_
            refine pe_if_eq (t := 113) d_M_layOut_106 (by first | exact hB _ _ | exact hB0 _ _ | exact hBt _ _ | exact ⟨by omega, by omega⟩) (fun h106 => ?_) (fun h106 => ?_)
            · skip
              refine pe_iload_n d_M_layOut_113 rfl ?_
              refine pe_iload d_M_layOut_114 rfl ?_
              refine pe_iadd d_M_layOut_116 ?_
              refine pe_istore_n d_M_layOut_117 ?_
              refine pe_iload d_M_layOut_118 rfl ?_
              refine pe_if_eq (t := 129) d_M_layOut_120 (by first | exact hB _ _ | exact hB0 _ _ | exact hBt _ _ | exact ⟨by omega, by omega⟩) (fun h120 => ?_) (fun h120 => ?_)
              · skip
                refine pe_iload_n d_M_layOut_129 rfl ?_
                refine pe_istore_n d_M_layOut_130 ?_
                refine pe_iload_n d_M_layOut_131 rfl ?_
                refine pe_aload_n d_M_layOut_132 rfl ?_
                refine pe_geti f_M_87 d_M_layOut_133 rfl rfl 1 rfl ?_
                refine pe_icmp_ne (t := 145) d_M_layOut_136 (by first | exact hB _ _ | exact hB0 _ _ | exact hBt _ _ | exact ⟨by omega, by omega⟩) (by first | exact hB _ _ | exact hB0 _ _ | exact hBt _ _ | exact ⟨by omega, by omega⟩) (fun h136 => ?_) (fun h136 => ?_)
                · skip
                  exfalso; omega
                · skip
                  refine pe_iload_n d_M_layOut_139 rfl ?_
                  refine pe_iconst d_M_layOut_140 ?_
                  refine pe_iadd d_M_layOut_141 ?_
                  refine pe_goto (t := 150) d_M_layOut_142 ?_
                  refine pe_istore_n d_M_layOut_150 ?_
                  refine pe_goto (t := 6) d_M_layOut_151 ?_
                  refine pe_drop 4 (pe_drop 5 ?_)
                  first | (exfalso; omega) | exact ih (_, _, _, _) ⟨hB, (fun b hb => (f75 b (by simp at hb ⊢; try omega)).trans ((f72 b (by simp at hb ⊢; try omega)).trans ((f64 b (by simp at hb ⊢; try omega)).trans ((f57 b (by simp at hb ⊢; try omega)).trans (hfr b (by simp at hb ⊢; try omega)))))), (fun j hj => (o75 j (by simp at hj ⊢; try omega)).trans ((congrFun (f72 29 (by decide)) j).trans ((congrFun (f64 29 (by decide)) j).trans ((congrFun (f57 29 (by decide)) j).trans (hO j hj))))), by (try dsimp only); have a1 := congrFun (((f75 37 (by decide)).trans ((f72 37 (by decide)).trans ((f64 37 (by decide)).trans (rfl))))) 0; have a2 := congrFun (((f75 38 (by decide)).trans ((f72 38 (by decide)).trans (rfl)))) 0; have a3 := congrFun (((f75 39 (by decide)).trans (rfl))) 0; omega⟩ (by (try dsimp only); omega)
              · skip
                exfalso; omega
            · skip
              exfalso; omega
          · skip
            exfalso; omega
        · skip
          exfalso; omega
  refine pe_iconst d_M_layOut_0 ?_
  refine pe_istore_n d_M_layOut_1 ?_
  refine pe_iconst d_M_layOut_2 ?_
  refine pe_istore_n d_M_layOut_3 ?_
  refine pe_iconst d_M_layOut_4 ?_
  refine pe_istore_n d_M_layOut_5 ?_
  exact J6 (_, _, _, _) ⟨hB, (fun b hb => rfl), fun _ _ => rfl, by (try dsimp only); omega⟩
theorem y_M_fillText {σ : pe_H} (hB : pe_B σ) (hW : 1 ≤ σ 29 21 ∧ σ 29 21 ≤ 24 ∧ 1 ≤ σ 29 22 ∧ σ 29 22 ≤ 8) (hF : σ 29 1 = 0 ∧ σ 29 2 = 0 ∧ σ 29 3 = -1 ∧ σ 29 27 = 0 ∧ 2 ≤ σ 29 22) (hy : σ 37 0 = 0 ∧ σ 38 0 = 0 ∧ σ 39 0 = 1) (hb : (∀ j, 0 ≤ j → j < 192 → σ 40 j = 32 ∧ σ 41 j = 0)) : pe_M m_M_fillText [pe_r 29] σ (pe_qv (fun σ' => pe_B σ' ∧ (∀ b, b ∉ [40, 41] → σ' b = σ b) ∧ (∀ j, 0 ≤ j → j < 192 → σ' 40 j = 32 ∧ σ' 41 j = 0))) := by
  refine pe_in0 (lv := [some (pe_r 29), none, none, none, none, none, none, none, none]) ?_
  have hB0 := hB
  have J48 : ∀ x : Int × Int × Int × pe_H, (pe_B x.2.2.2 ∧ (∀ b, b ∉ [40, 41] → x.2.2.2 b = σ b) ∧ (∀ j, 0 ≤ j → j < 192 → x.2.2.2 40 j = 32 ∧ x.2.2.2 41 j = 0) ∧ (x.2.2.1 = 0 ∨ x.2.2.1 = 1)) → pe_G m_M_fillText 48 [some (pe_r 29), some (pe_i x.1), some (pe_i x.2.1), some (pe_i x.2.2.1), none, none, none, none, none] [] x.2.2.2 (pe_qv (fun σ' => pe_B σ' ∧ (∀ b, b ∉ [40, 41] → σ' b = σ b) ∧ (∀ j, 0 ≤ j → j < 192 → σ' 40 j = 32 ∧ σ' 41 j = 0))) := by
    refine pe_loop (fun x : Int × Int × Int × pe_H => (9 - x.2.2.1).toNat) _ _ ?_
    intro x hI ih
    obtain ⟨f, t, p, τ⟩ := x
    dsimp only at hI ⊢
    obtain ⟨hB, hfr, hX⟩ := hI
    have v_29_1 : τ 29 1 = σ 29 1 := congrFun (hfr 29 (by decide)) 1
    have v_29_21 : τ 29 21 = σ 29 21 := congrFun (hfr 29 (by decide)) 21
    have v_29_22 : τ 29 22 = σ 29 22 := congrFun (hfr 29 (by decide)) 22
    have v_29_27 : τ 29 27 = σ 29 27 := congrFun (hfr 29 (by decide)) 27
    have v_29_2 : τ 29 2 = σ 29 2 := congrFun (hfr 29 (by decide)) 2
    have v_29_3 : τ 29 3 = σ 29 3 := congrFun (hfr 29 (by decide)) 3
    have v_37_0 : τ 37 0 = σ 37 0 := congrFun (hfr 37 (by decide)) 0
    have v_38_0 : τ 38 0 = σ 38 0 := congrFun (hfr 38 (by decide)) 0
    have v_39_0 : τ 39 0 = σ 39 0 := congrFun (hfr 39 (by decide)) 0
    obtain ⟨hb, hX⟩ := hX
    have hBt := hB
    have J177 : ∀ x : Int × Int × Int × Int × Int × Int × Int × Int × pe_H, (pe_B x.2.2.2.2.2.2.2.2 ∧ (∀ b, b ∉ [40, 41] → x.2.2.2.2.2.2.2.2 b = σ b) ∧ (∀ j, 0 ≤ j → j < 192 → x.2.2.2.2.2.2.2.2 40 j = 32 ∧ x.2.2.2.2.2.2.2.2 41 j = 0) ∧ (x.2.2.1 = 0 ∧ p = 0 ∧ x.2.2.2.1 = 0 ∧ x.2.2.2.2.1 = 0 ∧ x.2.2.2.2.2.1 = 1 ∧ x.2.2.2.2.2.2.1 = 0 ∧ (x.2.2.2.2.2.2.2.1 = 0 ∨ x.2.2.2.2.2.2.2.1 = 1))) → pe_G m_M_fillText 177 [some (pe_r 29), some (pe_i x.1), some (pe_i x.2.1), some (pe_i x.2.2.1), some (pe_i x.2.2.2.1), some (pe_i x.2.2.2.2.1), some (pe_i x.2.2.2.2.2.1), some (pe_i x.2.2.2.2.2.2.1), some (pe_i x.2.2.2.2.2.2.2.1)] [] x.2.2.2.2.2.2.2.2 (pe_qv (fun σ' => pe_B σ' ∧ (∀ b, b ∉ [40, 41] → σ' b = σ b) ∧ (∀ j, 0 ≤ j → j < 192 → σ' 40 j = 32 ∧ σ' 41 j = 0))) := by
      refine pe_loop (fun x : Int × Int × Int × Int × Int × Int × Int × Int × pe_H => (9 - x.2.2.2.2.2.2.2.1).toNat) _ _ ?_
      intro x hI ih2
      obtain ⟨f, t, p2, r, a, b, l, k, τ⟩ := x
      dsimp only at hI ⊢
      obtain ⟨hB, hfr, hX⟩ := hI
      have v_29_1 : τ 29 1 = σ 29 1 := congrFun (hfr 29 (by decide)) 1
      have v_29_21 : τ 29 21 = σ 29 21 := congrFun (hfr 29 (by decide)) 21
      have v_29_22 : τ 29 22 = σ 29 22 := congrFun (hfr 29 (by decide)) 22
      have v_29_27 : τ 29 27 = σ 29 27 := congrFun (hfr 29 (by decide)) 27
      have v_29_2 : τ 29 2 = σ 29 2 := congrFun (hfr 29 (by decide)) 2
      have v_29_3 : τ 29 3 = σ 29 3 := congrFun (hfr 29 (by decide)) 3
      have v_39_0 : τ 39 0 = σ 39 0 := congrFun (hfr 39 (by decide)) 0
      obtain ⟨hb, hX⟩ := hX
      have hp02 : p2 = 0 := by omega
      subst hp02
      have hBt := hB
      refine pe_iload d_M_fillText_177 rfl ?_
      refine pe_aload_n d_M_fillText_179 rfl ?_
      refine pe_getr f_M_47 d_M_fillText_180 rfl rfl ?_
      refine pe_iload_n d_M_fillText_183 rfl ?_
      refine pe_iald d_M_fillText_184 rfl (by omega) (by omega) ?_
      refine pe_icmp_ge (t := 240) d_M_fillText_185 (by first | exact hB _ _ | exact hB0 _ _ | exact hBt _ _ | exact ⟨by omega, by omega⟩) (by first | exact hB _ _ | exact hB0 _ _ | exact hBt _ _ | exact ⟨by omega, by omega⟩) (fun h185 => ?_) (fun h185 => ?_)
      · skip
        refine pe_iinc d_M_fillText_240 rfl ?_
        refine pe_goto (t := 48) d_M_fillText_243 ?_
        refine pe_drop 4 (pe_drop 5 (pe_drop 6 (pe_drop 7 (pe_drop 8 ?_))))
        first | (exfalso; omega) | exact ih (_, _, _, _) ⟨hB, (fun b hb => hfr b (by simp at hb ⊢; try omega)), hb, by (try dsimp only); omega⟩ (by (try dsimp only); omega)
      · skip
        refine pe_aload_n d_M_fillText_188 rfl ?_
        refine pe_getr f_M_50 d_M_fillText_189 rfl rfl ?_
        refine pe_iload d_M_fillText_192 rfl ?_
        refine pe_iload d_M_fillText_194 rfl ?_
        refine pe_iadd d_M_fillText_196 ?_
        refine pe_iload d_M_fillText_197 rfl ?_
        refine pe_if_eq (t := 207) d_M_fillText_199 (by first | exact hB _ _ | exact hB0 _ _ | exact hBt _ _ | exact ⟨by omega, by omega⟩) (fun h199 => ?_) (fun h199 => ?_)
        · skip
          exfalso; omega
        · skip
          refine pe_bipush d_M_fillText_202 ?_
          refine pe_goto (t := 221) d_M_fillText_204 ?_
          refine pe_iastT d_M_fillText_221 rfl (by omega) (by omega) hB (by first | exact hB _ _ | exact hB0 _ _ | exact hBt _ _ | exact ⟨by omega, by omega⟩) (fun σ221 hB e221 o221 f221 => ?_)
          try have u221_0 : σ221 29 1 = τ 29 1 := by first | exact o221 1 (by decide) | exact congrFun (f221 29 (by decide)) 1
          try have u221_1 : σ221 29 21 = τ 29 21 := by first | exact o221 21 (by decide) | exact congrFun (f221 29 (by decide)) 21
          try have u221_2 : σ221 29 22 = τ 29 22 := by first | exact o221 22 (by decide) | exact congrFun (f221 29 (by decide)) 22
          try have u221_3 : σ221 29 27 = τ 29 27 := by first | exact o221 27 (by decide) | exact congrFun (f221 29 (by decide)) 27
          try have u221_4 : σ221 29 2 = τ 29 2 := by first | exact o221 2 (by decide) | exact congrFun (f221 29 (by decide)) 2
          try have u221_5 : σ221 29 3 = τ 29 3 := by first | exact o221 3 (by decide) | exact congrFun (f221 29 (by decide)) 3
          refine pe_aload_n d_M_fillText_222 rfl ?_
          refine pe_getr f_M_53 d_M_fillText_223 rfl rfl ?_
          refine pe_iload d_M_fillText_226 rfl ?_
          refine pe_iload d_M_fillText_228 rfl ?_
          refine pe_iadd d_M_fillText_230 ?_
          refine pe_iload d_M_fillText_231 rfl ?_
          refine pe_iastT d_M_fillText_233 rfl (by omega) (by omega) hB (by first | exact hB _ _ | exact hB0 _ _ | exact hBt _ _ | exact ⟨by omega, by omega⟩) (fun σ233 hB e233 o233 f233 => ?_)
          try have u233_0 : σ233 29 1 = σ221 29 1 := by first | exact o233 1 (by decide) | exact congrFun (f233 29 (by decide)) 1
          try have u233_1 : σ233 29 21 = σ221 29 21 := by first | exact o233 21 (by decide) | exact congrFun (f233 29 (by decide)) 21
          try have u233_2 : σ233 29 22 = σ221 29 22 := by first | exact o233 22 (by decide) | exact congrFun (f233 29 (by decide)) 22
          try have u233_3 : σ233 29 27 = σ221 29 27 := by first | exact o233 27 (by decide) | exact congrFun (f233 29 (by decide)) 27
          try have u233_4 : σ233 29 2 = σ221 29 2 := by first | exact o233 2 (by decide) | exact congrFun (f233 29 (by decide)) 2
          try have u233_5 : σ233 29 3 = σ221 29 3 := by first | exact o233 3 (by decide) | exact congrFun (f233 29 (by decide)) 3
          refine pe_iinc d_M_fillText_234 rfl ?_
          refine pe_goto (t := 177) d_M_fillText_237 ?_
          first | (exfalso; omega) | exact ih2 (_, _, _, _, _, _, _, _, _) ⟨hB, (fun b hb => (f233 b (by simp at hb ⊢; try omega)).trans ((f221 b (by simp at hb ⊢; try omega)).trans (hfr b (by simp at hb ⊢; try omega)))), fun j h1 h2 => ⟨by
            (try dsimp only)
            rw [f233 40 (by decide)]
            by_cases q : j = a + k
            · rw [q, e221]
            · rw [o221 j q]; exact (hb j h1 h2).1, by
            (try dsimp only)
            by_cases q : j = a + k
            · rw [q, e233]; omega
            · rw [o233 j q, f221 41 (by decide)]; exact (hb j h1 h2).2⟩, by (try dsimp only); omega⟩ (by (try dsimp only); omega)
    refine pe_iload_n d_M_fillText_48 rfl ?_
    refine pe_aload_n d_M_fillText_49 rfl ?_
    refine pe_geti f_M_87 d_M_fillText_50 rfl rfl 1 rfl ?_
    refine pe_icmp_gt (t := 246) d_M_fillText_53 (by first | exact hB _ _ | exact hB0 _ _ | exact hBt _ _ | exact ⟨by omega, by omega⟩) (by first | exact hB _ _ | exact hB0 _ _ | exact hBt _ _ | exact ⟨by omega, by omega⟩) (fun h53 => ?_) (fun h53 => ?_)
    · skip
      refine pe_rv d_M_fillText_246 ?_
      exact ⟨hB, (fun b hb => hfr b (by simp at hb ⊢; try omega)), hb⟩
    · skip
      have hp0 : p = 0 := by omega
      subst hp0
      refine pe_aload_n d_M_fillText_56 rfl ?_
      refine pe_iload_n d_M_fillText_57 rfl ?_
      refine pe_v1p d_M_fillText_58 c_M_94 i_M_begins s_M_begins rfl rfl (t_M_begins hB (by omega) (by omega)) (fun z58 hz58 => ?_)
      have zb : z58 = 1 := (hz58.2).mpr (pe_bg0 _ _)
      refine pe_if_eq (t := 78) d_M_fillText_61 (by first | exact hB _ _ | exact hB0 _ _ | exact hBt _ _ | exact ⟨by omega, by omega⟩) (fun h61 => ?_) (fun h61 => ?_)
      · skip
        exfalso; omega
      · skip
        refine pe_aload_n d_M_fillText_64 rfl ?_
        refine pe_getr f_M_41 d_M_fillText_65 rfl rfl ?_
        refine pe_iload_n d_M_fillText_68 rfl ?_
        refine pe_iald d_M_fillText_69 rfl (by omega) (by omega) ?_
        refine pe_aload_n d_M_fillText_70 rfl ?_
        refine pe_geti f_M_222 d_M_fillText_71 rfl rfl 27 rfl ?_
        refine pe_isub d_M_fillText_74 ?_
        refine pe_goto (t := 79) d_M_fillText_75 ?_
        have er : τ 37 0 - τ 29 27 = 0 := by omega
        rw [er]
        refine pe_istore d_M_fillText_79 ?_
        refine pe_iload d_M_fillText_81 rfl ?_
        refine pe_if_lt (t := 240) d_M_fillText_83 (by first | exact hB _ _ | exact hB0 _ _ | exact hBt _ _ | exact ⟨by omega, by omega⟩) (fun h83 => ?_) (fun h83 => ?_)
        · skip
          refine pe_iinc d_M_fillText_240 rfl ?_
          refine pe_goto (t := 48) d_M_fillText_243 ?_
          refine pe_drop 4 (pe_drop 5 (pe_drop 6 (pe_drop 7 (pe_drop 8 ?_))))
          first | (exfalso; omega) | exact ih (_, _, _, _) ⟨hB, (fun b hb => hfr b (by simp at hb ⊢; try omega)), hb, by (try dsimp only); omega⟩ (by (try dsimp only); omega)
        · skip
          refine pe_iload d_M_fillText_86 rfl ?_
          refine pe_aload_n d_M_fillText_88 rfl ?_
          refine pe_geti f_M_81 d_M_fillText_89 rfl rfl 22 rfl ?_
          refine pe_iconst d_M_fillText_92 ?_
          refine pe_isub d_M_fillText_93 ?_
          refine pe_icmp_ge (t := 240) d_M_fillText_94 (by first | exact hB _ _ | exact hB0 _ _ | exact hBt _ _ | exact ⟨by omega, by omega⟩) (by first | exact hB _ _ | exact hB0 _ _ | exact hBt _ _ | exact ⟨by omega, by omega⟩) (fun h94 => ?_) (fun h94 => ?_)
          · skip
            refine pe_iinc d_M_fillText_240 rfl ?_
            refine pe_goto (t := 48) d_M_fillText_243 ?_
            refine pe_drop 4 (pe_drop 5 (pe_drop 6 (pe_drop 7 (pe_drop 8 ?_))))
            first | (exfalso; omega) | exact ih (_, _, _, _) ⟨hB, (fun b hb => hfr b (by simp at hb ⊢; try omega)), hb, by (try dsimp only); omega⟩ (by (try dsimp only); omega)
          · skip
            refine pe_aload_n d_M_fillText_97 rfl ?_
            refine pe_geti f_M_78 d_M_fillText_98 rfl rfl 21 rfl ?_
            refine pe_iload d_M_fillText_101 rfl ?_
            refine pe_imul d_M_fillText_103 ?_
            refine pe_aload_n d_M_fillText_104 rfl ?_
            refine pe_getr f_M_44 d_M_fillText_105 rfl rfl ?_
            refine pe_iload_n d_M_fillText_108 rfl ?_
            refine pe_iald d_M_fillText_109 rfl (by omega) (by omega) ?_
            refine pe_iadd d_M_fillText_110 ?_
            have ea : τ 29 21 * 0 + τ 38 0 = 0 := by omega
            rw [ea]
            refine pe_istore d_M_fillText_111 ?_
            refine pe_iload_n d_M_fillText_113 rfl ?_
            refine pe_aload_n d_M_fillText_114 rfl ?_
            refine pe_geti f_M_87 d_M_fillText_115 rfl rfl 1 rfl ?_
            refine pe_icmp_eq (t := 143) d_M_fillText_118 (by first | exact hB _ _ | exact hB0 _ _ | exact hBt _ _ | exact ⟨by omega, by omega⟩) (by first | exact hB _ _ | exact hB0 _ _ | exact hBt _ _ | exact ⟨by omega, by omega⟩) (fun h118 => ?_) (fun h118 => ?_)
            · skip
              refine pe_iconst d_M_fillText_143 ?_
              refine pe_goto (t := 148) d_M_fillText_144 ?_
              refine pe_istore d_M_fillText_148 ?_
              refine pe_aload_n d_M_fillText_150 rfl ?_
              refine pe_geti f_M_13 d_M_fillText_151 rfl rfl 3 rfl ?_
              refine pe_if_lt (t := 171) d_M_fillText_154 (by first | exact hB _ _ | exact hB0 _ _ | exact hBt _ _ | exact ⟨by omega, by omega⟩) (fun h154 => ?_) (fun h154 => ?_)
              · skip
                refine pe_iconst d_M_fillText_171 ?_
                refine pe_istore d_M_fillText_172 ?_
                refine pe_iconst d_M_fillText_174 ?_
                refine pe_istore d_M_fillText_175 ?_
                first | (exfalso; omega) | exact J177 (_, _, _, _, _, _, _, _, _) ⟨hB, (fun b hb => hfr b (by simp at hb ⊢; try omega)), hb, by (try dsimp only); omega⟩
              · skip
                exfalso; omega
            · skip
              exfalso; omega
  refine pe_aload_n d_M_fillText_0 rfl ?_
  refine pe_geti f_M_13 d_M_fillText_1 rfl rfl 3 rfl ?_
  refine pe_aload_n d_M_fillText_4 rfl ?_
  refine pe_geti f_M_117 d_M_fillText_5 rfl rfl 2 rfl ?_
  refine pe_icmp_ge (t := 18) d_M_fillText_8 (by first | exact hB _ _ | exact hB0 _ _ | exact hBt _ _ | exact ⟨by omega, by omega⟩) (by first | exact hB _ _ | exact hB0 _ _ | exact hBt _ _ | exact ⟨by omega, by omega⟩) (fun h8 => ?_) (fun h8 => ?_)
  · skip
    refine pe_aload_n d_M_fillText_18 rfl ?_
    refine pe_geti f_M_117 d_M_fillText_19 rfl rfl 2 rfl ?_
    refine pe_istore_n d_M_fillText_22 ?_
    refine pe_aload_n d_M_fillText_23 rfl ?_
    refine pe_geti f_M_13 d_M_fillText_24 rfl rfl 3 rfl ?_
    refine pe_aload_n d_M_fillText_27 rfl ?_
    refine pe_geti f_M_117 d_M_fillText_28 rfl rfl 2 rfl ?_
    refine pe_icmp_ge (t := 41) d_M_fillText_31 (by first | exact hB _ _ | exact hB0 _ _ | exact hBt _ _ | exact ⟨by omega, by omega⟩) (by first | exact hB _ _ | exact hB0 _ _ | exact hBt _ _ | exact ⟨by omega, by omega⟩) (fun h31 => ?_) (fun h31 => ?_)
    · skip
      refine pe_aload_n d_M_fillText_41 rfl ?_
      refine pe_geti f_M_13 d_M_fillText_42 rfl rfl 3 rfl ?_
      refine pe_istore_n d_M_fillText_45 ?_
      refine pe_iconst d_M_fillText_46 ?_
      refine pe_istore_n d_M_fillText_47 ?_
      exact J48 (_, _, _, _) ⟨hB, (fun b hb => rfl), hb, by (try dsimp only); omega⟩
    · skip
      refine pe_aload_n d_M_fillText_34 rfl ?_
      refine pe_geti f_M_117 d_M_fillText_35 rfl rfl 2 rfl ?_
      refine pe_goto (t := 45) d_M_fillText_38 ?_
      refine pe_istore_n d_M_fillText_45 ?_
      refine pe_iconst d_M_fillText_46 ?_
      refine pe_istore_n d_M_fillText_47 ?_
      exact J48 (_, _, _, _) ⟨hB, (fun b hb => rfl), hb, by (try dsimp only); omega⟩
  · skip
    refine pe_aload_n d_M_fillText_11 rfl ?_
    refine pe_geti f_M_13 d_M_fillText_12 rfl rfl 3 rfl ?_
    refine pe_goto (t := 22) d_M_fillText_15 ?_
    refine pe_istore_n d_M_fillText_22 ?_
    refine pe_aload_n d_M_fillText_23 rfl ?_
    refine pe_geti f_M_13 d_M_fillText_24 rfl rfl 3 rfl ?_
    refine pe_aload_n d_M_fillText_27 rfl ?_
    refine pe_geti f_M_117 d_M_fillText_28 rfl rfl 2 rfl ?_
    refine pe_icmp_ge (t := 41) d_M_fillText_31 (by first | exact hB _ _ | exact hB0 _ _ | exact hBt _ _ | exact ⟨by omega, by omega⟩) (by first | exact hB _ _ | exact hB0 _ _ | exact hBt _ _ | exact ⟨by omega, by omega⟩) (fun h31 => ?_) (fun h31 => ?_)
    · skip
      refine pe_aload_n d_M_fillText_41 rfl ?_
      refine pe_geti f_M_13 d_M_fillText_42 rfl rfl 3 rfl ?_
      refine pe_istore_n d_M_fillText_45 ?_
      refine pe_iconst d_M_fillText_46 ?_
      refine pe_istore_n d_M_fillText_47 ?_
      exact J48 (_, _, _, _) ⟨hB, (fun b hb => rfl), hb, by (try dsimp only); omega⟩
    · skip
      refine pe_aload_n d_M_fillText_34 rfl ?_
      refine pe_geti f_M_117 d_M_fillText_35 rfl rfl 2 rfl ?_
      refine pe_goto (t := 45) d_M_fillText_38 ?_
      refine pe_istore_n d_M_fillText_45 ?_
      refine pe_iconst d_M_fillText_46 ?_
      refine pe_istore_n d_M_fillText_47 ?_
      exact J48 (_, _, _, _) ⟨hB, (fun b hb => rfl), hb, by (try dsimp only); omega⟩
