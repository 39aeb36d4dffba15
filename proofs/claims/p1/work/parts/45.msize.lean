def pe_mk (W R : Int) : Int → Int := fun j => if j = 21 then W else if j = 22 then R else 0
set_option maxHeartbeats 2000000 in
theorem t_M_size {σ : pe_H} {C R : Int} (hB : pe_B σ) (hW : 1 ≤ σ 29 21 ∧ σ 29 21 ≤ 24 ∧ 1 ≤ σ 29 22 ∧ σ 29 22 ≤ 8) (hS : pe_SW (σ 29) (σ 42)) (A44 : (∀ j, 0 ≤ σ 44 j)) (hC : pe_R C) (hR : pe_R R) : pe_M m_M_size [pe_r 29, pe_i C, pe_i R] σ (pe_qi (fun z σ' => pe_B σ' ∧ (∀ b, b ∉ [29, 42, 43, 44, 45] → σ' b = σ b) ∧ (∀ j, j ∉ ([21, 22, 36, 37, 38, 40, 41] : List Int) → σ' 29 j = σ 29 j) ∧ (z = 0 ∨ z = 1) ∧ (z = 1 ↔ 1 ≤ C ∧ C ≤ 24 ∧ 1 ≤ R ∧ R ≤ 8) ∧ (z = 0 → σ' = σ) ∧ (z = 1 → σ' 29 21 = C ∧ σ' 29 22 = R ∧ σ' 29 36 = 0 ∧ σ' 29 37 = 0 ∧ σ' 29 40 = -1) ∧ pe_SW (σ' 29) (σ' 42) ∧ (∀ j, 0 ≤ σ' 44 j))) := by
  refine pe_in0 (lv := [some (pe_r 29), some (pe_i C), some (pe_i R), none, none, none, none, none, none]) ?_
  have hB0 := hB
  have J65 : ∀ x : Int × pe_H, (pe_B x.2 ∧ (∀ b, b ∉ [42, 43, 44, 45] → x.2 b = σ b) ∧ (∀ j, 0 ≤ x.2 44 j) ∧ (x.2 44 0 = σ 42 0) ∧ pe_SW (pe_mk C x.1) (x.2 42) ∧ (0 ≤ x.1 ∧ x.1 ≤ R ∧ 1 ≤ C ∧ C ≤ 24 ∧ 1 ≤ R ∧ R ≤ 8)) → pe_G m_M_size 65 [some (pe_r 29), some (pe_i C), some (pe_i R), some (pe_i x.1), none, none, none, none, none] [] x.2 (pe_qi (fun z σ' => pe_B σ' ∧ (∀ b, b ∉ [29, 42, 43, 44, 45] → σ' b = σ b) ∧ (∀ j, j ∉ ([21, 22, 36, 37, 38, 40, 41] : List Int) → σ' 29 j = σ 29 j) ∧ (z = 0 ∨ z = 1) ∧ (z = 1 ↔ 1 ≤ C ∧ C ≤ 24 ∧ 1 ≤ R ∧ R ≤ 8) ∧ (z = 0 → σ' = σ) ∧ (z = 1 → σ' 29 21 = C ∧ σ' 29 22 = R ∧ σ' 29 36 = 0 ∧ σ' 29 37 = 0 ∧ σ' 29 40 = -1) ∧ pe_SW (σ' 29) (σ' 42) ∧ (∀ j, 0 ≤ σ' 44 j))) := by
    refine pe_loop (fun x : Int × pe_H => (100 - x.1).toNat) _ _ ?_
    intro x hI ih
    obtain ⟨r, τ⟩ := x
    dsimp only at hI ⊢
    obtain ⟨hB, hfr, hX⟩ := hI
    have v_29_21 : τ 29 21 = σ 29 21 := congrFun (hfr 29 (by decide)) 21
    have v_29_22 : τ 29 22 = σ 29 22 := congrFun (hfr 29 (by decide)) 22
    obtain ⟨A44, h440, hS1, hX⟩ := hX
    have hBt := hB
    have J73 : ∀ x : Int × pe_H, (pe_B x.2 ∧ (∀ b, b ∉ [42, 43, 44, 45] → x.2 b = σ b) ∧ (∀ j, 0 ≤ x.2 44 j) ∧ (x.2 44 0 = σ 42 0) ∧ pe_SW (pe_mk C r) (x.2 42) ∧ (x.1 = C → ¬ pe_wi (x.2 42 (C * r + (C - 1)) % 65536)) ∧ (r < R) ∧ (0 ≤ x.1 ∧ x.1 ≤ C)) → pe_G m_M_size 73 [some (pe_r 29), some (pe_i C), some (pe_i R), some (pe_i r), some (pe_i x.1), none, none, none, none] [] x.2 (pe_qi (fun z σ' => pe_B σ' ∧ (∀ b, b ∉ [29, 42, 43, 44, 45] → σ' b = σ b) ∧ (∀ j, j ∉ ([21, 22, 36, 37, 38, 40, 41] : List Int) → σ' 29 j = σ 29 j) ∧ (z = 0 ∨ z = 1) ∧ (z = 1 ↔ 1 ≤ C ∧ C ≤ 24 ∧ 1 ≤ R ∧ R ≤ 8) ∧ (z = 0 → σ' = σ) ∧ (z = 1 → σ' 29 21 = C ∧ σ' 29 22 = R ∧ σ' 29 36 = 0 ∧ σ' 29 37 = 0 ∧ σ' 29 40 = -1) ∧ pe_SW (σ' 29) (σ' 42) ∧ (∀ j, 0 ≤ σ' 44 j))) := by
      refine pe_loop (fun x : Int × pe_H => (100 - x.1).toNat) _ _ ?_
      intro x hI ih2
      obtain ⟨c, τ2⟩ := x
      dsimp only at hI ⊢
      obtain ⟨hB, hfr, hX⟩ := hI
      have v_29_21 : τ2 29 21 = σ 29 21 := congrFun (hfr 29 (by decide)) 21
      have v_29_22 : τ2 29 22 = σ 29 22 := congrFun (hfr 29 (by decide)) 22
      obtain ⟨A44, h440, hS2, hlast, hrR, hX⟩ := hX
      have ix := pe_ix (W := C) (H := R) (r := r) (c := 0) (by omega) (by omega) (by omega) (by omega)
      have hBt := hB
      have J168 : ∀ x : Int × Int × Int, ((c < C) ∧ (x.1 = 0 ∧ ¬ (r < σ 29 22 ∧ c < σ 29 21) ∨ (x.1 = 1 ∧ r < σ 29 22 ∧ c < σ 29 21)) ∧ (x.1 = 1 → x.2.1 = σ 29 21 * r + c) ∧ (0 ≤ x.2.1 ∧ x.2.1 < 192) ∧ (x.2.2 = 0 ∨ x.2.2 = 1) ∧ (x.1 = 1 → x.2.2 = 0 → c = C - 1 → ¬ pe_wi (τ2 44 x.2.1 % 65536))) → pe_G m_M_size 168 [some (pe_r 29), some (pe_i C), some (pe_i R), some (pe_i r), some (pe_i c), some (pe_i (C * r + c)), some (pe_i x.1), some (pe_i x.2.1), some (pe_i x.2.2)] [] τ2 (pe_qi (fun z σ' => pe_B σ' ∧ (∀ b, b ∉ [29, 42, 43, 44, 45] → σ' b = σ b) ∧ (∀ j, j ∉ ([21, 22, 36, 37, 38, 40, 41] : List Int) → σ' 29 j = σ 29 j) ∧ (z = 0 ∨ z = 1) ∧ (z = 1 ↔ 1 ≤ C ∧ C ≤ 24 ∧ 1 ≤ R ∧ R ≤ 8) ∧ (z = 0 → σ' = σ) ∧ (z = 1 → σ' 29 21 = C ∧ σ' 29 22 = R ∧ σ' 29 36 = 0 ∧ σ' 29 37 = 0 ∧ σ' 29 40 = -1) ∧ pe_SW (σ' 29) (σ' 42) ∧ (∀ j, 0 ≤ σ' 44 j))) := by
        intro x hI
        obtain ⟨t, f, h⟩ := x
        dsimp only at hI ⊢
        obtain ⟨hcC, htt, hff, hf9, hhh, hh⟩ := hI
        refine pe_aload_n d_M_size_168 rfl ?_
        refine pe_getr f_M_56 d_M_size_169 rfl rfl ?_
        refine pe_iload d_M_size_172 rfl ?_
        refine pe_iload d_M_size_174 rfl ?_
        refine pe_if_eq (t := 194) d_M_size_176 (by first | exact hB _ _ | exact hB0 _ _ | exact hBt _ _ | exact ⟨by omega, by omega⟩) (fun h176 => ?_) (fun h176 => ?_)
        · skip
          refine pe_bipush d_M_size_194 ?_
          refine pe_iastT d_M_size_196 rfl (by omega) (by omega) hB (by first | exact hB _ _ | exact hB0 _ _ | exact hBt _ _ | exact ⟨by omega, by omega⟩) (fun σ196 hB e196 o196 f196 => ?_)
          try have u196_0 : σ196 29 21 = τ2 29 21 := by first | exact o196 21 (by decide) | exact congrFun (f196 29 (by decide)) 21
          try have u196_1 : σ196 29 22 = τ2 29 22 := by first | exact o196 22 (by decide) | exact congrFun (f196 29 (by decide)) 22
          try have u196_2 : σ196 29 36 = τ2 29 36 := by first | exact o196 36 (by decide) | exact congrFun (f196 29 (by decide)) 36
          try have u196_3 : σ196 29 37 = τ2 29 37 := by first | exact o196 37 (by decide) | exact congrFun (f196 29 (by decide)) 37
          try have u196_4 : σ196 29 40 = τ2 29 40 := by first | exact o196 40 (by decide) | exact congrFun (f196 29 (by decide)) 40
          have hr0 : C * r + c = 0 → r = 0 ∧ c = 0 := fun e => by
            have h2 : C * r = 0 := by omega
            rcases Int.mul_eq_zero.mp h2 with h3 | h3 <;> omega
          have hv : 0 ≤ σ196 42 (C * r + c) ∧ (C * r + c = 0 → σ196 42 (C * r + c) ≠ 0) ∧ (pe_wi (σ196 42 (C * r + c) % 65536) → c ≠ C - 1) := by
            rw [e196]
            first
            | exact ⟨by omega, fun _ => by omega, fun z => absurd z (pe_nw (by omega))⟩
            | exact ⟨A44 _, fun e => by
                obtain ⟨e1, e2⟩ := hr0 e
                have e3 : f = 0 := by rw [hff (by omega), e1, e2]; simp
                rw [e3, h440]; exact hS.2.1, fun z e => hh (by omega) (by omega) e z⟩
          have hS9 : pe_SW (pe_mk C r) (σ196 42) := pe_SW_up hS2 (i := C * r + c) rfl o196 hv.1 hv.2.1 (fun z r9 h1 h2 e => hv.2.2 z (pe_col (W := C) (r := r9) (c := C - 1) (r' := r) (c' := c) (by omega) (by omega) e).symm)
          have hlast : c + 1 = C → ¬ pe_wi (σ196 42 (C * r + (C - 1)) % 65536) := fun e z => by
            rw [show C - 1 = c by omega] at z
            exact hv.2.2 z (by omega)
          refine pe_aload_n d_M_size_197 rfl ?_
          refine pe_getr f_M_59 d_M_size_198 rfl rfl ?_
          refine pe_iload d_M_size_201 rfl ?_
          refine pe_iload d_M_size_203 rfl ?_
          refine pe_if_eq (t := 223) d_M_size_205 (by first | exact hB _ _ | exact hB0 _ _ | exact hBt _ _ | exact ⟨by omega, by omega⟩) (fun h205 => ?_) (fun h205 => ?_)
          · skip
            refine pe_iconst d_M_size_223 ?_
            refine pe_iastT d_M_size_224 rfl (by omega) (by omega) hB (by first | exact hB _ _ | exact hB0 _ _ | exact hBt _ _ | exact ⟨by omega, by omega⟩) (fun σ224 hB e224 o224 f224 => ?_)
            try have u224_0 : σ224 29 21 = σ196 29 21 := by first | exact o224 21 (by decide) | exact congrFun (f224 29 (by decide)) 21
            try have u224_1 : σ224 29 22 = σ196 29 22 := by first | exact o224 22 (by decide) | exact congrFun (f224 29 (by decide)) 22
            try have u224_2 : σ224 29 36 = σ196 29 36 := by first | exact o224 36 (by decide) | exact congrFun (f224 29 (by decide)) 36
            try have u224_3 : σ224 29 37 = σ196 29 37 := by first | exact o224 37 (by decide) | exact congrFun (f224 29 (by decide)) 37
            try have u224_4 : σ224 29 40 = σ196 29 40 := by first | exact o224 40 (by decide) | exact congrFun (f224 29 (by decide)) 40
            have A44 : ∀ j, 0 ≤ σ224 44 j := by rw [f224 44 (by decide), f196 44 (by decide)]; exact A44
            have h440 : σ224 44 0 = σ 42 0 := by rw [f224 44 (by decide), f196 44 (by decide)]; exact h440
            have hS9 : pe_SW (pe_mk C r) (σ224 42) := by rw [f224 42 (by decide)]; exact hS9
            have hlast : c + 1 = C → ¬ pe_wi (σ224 42 (C * r + (C - 1)) % 65536) := by rw [f224 42 (by decide)]; exact hlast
            refine pe_iinc d_M_size_225 rfl ?_
            refine pe_goto (t := 73) d_M_size_228 ?_
            exact pe_drop 5 (pe_drop 6 (pe_drop 7 (pe_drop 8 (ih2 (_, _) ⟨hB, (fun b hb => (f224 b (by simp at hb ⊢; try omega)).trans ((f196 b (by simp at hb ⊢; try omega)).trans (hfr b (by simp at hb ⊢; try omega)))), A44, h440, hS9, hlast, hrR, by (try dsimp only); omega⟩ (by (try dsimp only); omega)))))
          · skip
            refine pe_iload d_M_size_208 rfl ?_
            refine pe_if_ne (t := 223) d_M_size_210 (by first | exact hB _ _ | exact hB0 _ _ | exact hBt _ _ | exact ⟨by omega, by omega⟩) (fun h210 => ?_) (fun h210 => ?_)
            · skip
              refine pe_iconst d_M_size_223 ?_
              refine pe_iastT d_M_size_224 rfl (by omega) (by omega) hB (by first | exact hB _ _ | exact hB0 _ _ | exact hBt _ _ | exact ⟨by omega, by omega⟩) (fun σ224 hB e224 o224 f224 => ?_)
              try have u224_0 : σ224 29 21 = σ196 29 21 := by first | exact o224 21 (by decide) | exact congrFun (f224 29 (by decide)) 21
              try have u224_1 : σ224 29 22 = σ196 29 22 := by first | exact o224 22 (by decide) | exact congrFun (f224 29 (by decide)) 22
              try have u224_2 : σ224 29 36 = σ196 29 36 := by first | exact o224 36 (by decide) | exact congrFun (f224 29 (by decide)) 36
              try have u224_3 : σ224 29 37 = σ196 29 37 := by first | exact o224 37 (by decide) | exact congrFun (f224 29 (by decide)) 37
              try have u224_4 : σ224 29 40 = σ196 29 40 := by first | exact o224 40 (by decide) | exact congrFun (f224 29 (by decide)) 40
              have A44 : ∀ j, 0 ≤ σ224 44 j := by rw [f224 44 (by decide), f196 44 (by decide)]; exact A44
              have h440 : σ224 44 0 = σ 42 0 := by rw [f224 44 (by decide), f196 44 (by decide)]; exact h440
              have hS9 : pe_SW (pe_mk C r) (σ224 42) := by rw [f224 42 (by decide)]; exact hS9
              have hlast : c + 1 = C → ¬ pe_wi (σ224 42 (C * r + (C - 1)) % 65536) := by rw [f224 42 (by decide)]; exact hlast
              refine pe_iinc d_M_size_225 rfl ?_
              refine pe_goto (t := 73) d_M_size_228 ?_
              exact pe_drop 5 (pe_drop 6 (pe_drop 7 (pe_drop 8 (ih2 (_, _) ⟨hB, (fun b hb => (f224 b (by simp at hb ⊢; try omega)).trans ((f196 b (by simp at hb ⊢; try omega)).trans (hfr b (by simp at hb ⊢; try omega)))), A44, h440, hS9, hlast, hrR, by (try dsimp only); omega⟩ (by (try dsimp only); omega)))))
            · skip
              refine pe_aload_n d_M_size_213 rfl ?_
              refine pe_getr f_M_65 d_M_size_214 rfl rfl ?_
              refine pe_iload d_M_size_217 rfl ?_
              refine pe_iald d_M_size_219 rfl (by omega) (by omega) ?_
              refine pe_goto (t := 224) d_M_size_220 ?_
              refine pe_iastT d_M_size_224 rfl (by omega) (by omega) hB (by first | exact hB _ _ | exact hB0 _ _ | exact hBt _ _ | exact ⟨by omega, by omega⟩) (fun σ224 hB e224 o224 f224 => ?_)
              try have u224_0 : σ224 29 21 = σ196 29 21 := by first | exact o224 21 (by decide) | exact congrFun (f224 29 (by decide)) 21
              try have u224_1 : σ224 29 22 = σ196 29 22 := by first | exact o224 22 (by decide) | exact congrFun (f224 29 (by decide)) 22
              try have u224_2 : σ224 29 36 = σ196 29 36 := by first | exact o224 36 (by decide) | exact congrFun (f224 29 (by decide)) 36
              try have u224_3 : σ224 29 37 = σ196 29 37 := by first | exact o224 37 (by decide) | exact congrFun (f224 29 (by decide)) 37
              try have u224_4 : σ224 29 40 = σ196 29 40 := by first | exact o224 40 (by decide) | exact congrFun (f224 29 (by decide)) 40
              have A44 : ∀ j, 0 ≤ σ224 44 j := by rw [f224 44 (by decide), f196 44 (by decide)]; exact A44
              have h440 : σ224 44 0 = σ 42 0 := by rw [f224 44 (by decide), f196 44 (by decide)]; exact h440
              have hS9 : pe_SW (pe_mk C r) (σ224 42) := by rw [f224 42 (by decide)]; exact hS9
              have hlast : c + 1 = C → ¬ pe_wi (σ224 42 (C * r + (C - 1)) % 65536) := by rw [f224 42 (by decide)]; exact hlast
              refine pe_iinc d_M_size_225 rfl ?_
              refine pe_goto (t := 73) d_M_size_228 ?_
              exact pe_drop 5 (pe_drop 6 (pe_drop 7 (pe_drop 8 (ih2 (_, _) ⟨hB, (fun b hb => (f224 b (by simp at hb ⊢; try omega)).trans ((f196 b (by simp at hb ⊢; try omega)).trans (hfr b (by simp at hb ⊢; try omega)))), A44, h440, hS9, hlast, hrR, by (try dsimp only); omega⟩ (by (try dsimp only); omega)))))
        · skip
          refine pe_iload d_M_size_179 rfl ?_
          refine pe_if_ne (t := 194) d_M_size_181 (by first | exact hB _ _ | exact hB0 _ _ | exact hBt _ _ | exact ⟨by omega, by omega⟩) (fun h181 => ?_) (fun h181 => ?_)
          · skip
            refine pe_bipush d_M_size_194 ?_
            refine pe_iastT d_M_size_196 rfl (by omega) (by omega) hB (by first | exact hB _ _ | exact hB0 _ _ | exact hBt _ _ | exact ⟨by omega, by omega⟩) (fun σ196 hB e196 o196 f196 => ?_)
            try have u196_0 : σ196 29 21 = τ2 29 21 := by first | exact o196 21 (by decide) | exact congrFun (f196 29 (by decide)) 21
            try have u196_1 : σ196 29 22 = τ2 29 22 := by first | exact o196 22 (by decide) | exact congrFun (f196 29 (by decide)) 22
            try have u196_2 : σ196 29 36 = τ2 29 36 := by first | exact o196 36 (by decide) | exact congrFun (f196 29 (by decide)) 36
            try have u196_3 : σ196 29 37 = τ2 29 37 := by first | exact o196 37 (by decide) | exact congrFun (f196 29 (by decide)) 37
            try have u196_4 : σ196 29 40 = τ2 29 40 := by first | exact o196 40 (by decide) | exact congrFun (f196 29 (by decide)) 40
            have hr0 : C * r + c = 0 → r = 0 ∧ c = 0 := fun e => by
              have h2 : C * r = 0 := by omega
              rcases Int.mul_eq_zero.mp h2 with h3 | h3 <;> omega
            have hv : 0 ≤ σ196 42 (C * r + c) ∧ (C * r + c = 0 → σ196 42 (C * r + c) ≠ 0) ∧ (pe_wi (σ196 42 (C * r + c) % 65536) → c ≠ C - 1) := by
              rw [e196]
              first
              | exact ⟨by omega, fun _ => by omega, fun z => absurd z (pe_nw (by omega))⟩
              | exact ⟨A44 _, fun e => by
                  obtain ⟨e1, e2⟩ := hr0 e
                  have e3 : f = 0 := by rw [hff (by omega), e1, e2]; simp
                  rw [e3, h440]; exact hS.2.1, fun z e => hh (by omega) (by omega) e z⟩
            have hS9 : pe_SW (pe_mk C r) (σ196 42) := pe_SW_up hS2 (i := C * r + c) rfl o196 hv.1 hv.2.1 (fun z r9 h1 h2 e => hv.2.2 z (pe_col (W := C) (r := r9) (c := C - 1) (r' := r) (c' := c) (by omega) (by omega) e).symm)
            have hlast : c + 1 = C → ¬ pe_wi (σ196 42 (C * r + (C - 1)) % 65536) := fun e z => by
              rw [show C - 1 = c by omega] at z
              exact hv.2.2 z (by omega)
            refine pe_aload_n d_M_size_197 rfl ?_
            refine pe_getr f_M_59 d_M_size_198 rfl rfl ?_
            refine pe_iload d_M_size_201 rfl ?_
            refine pe_iload d_M_size_203 rfl ?_
            refine pe_if_eq (t := 223) d_M_size_205 (by first | exact hB _ _ | exact hB0 _ _ | exact hBt _ _ | exact ⟨by omega, by omega⟩) (fun h205 => ?_) (fun h205 => ?_)
            · skip
              refine pe_iconst d_M_size_223 ?_
              refine pe_iastT d_M_size_224 rfl (by omega) (by omega) hB (by first | exact hB _ _ | exact hB0 _ _ | exact hBt _ _ | exact ⟨by omega, by omega⟩) (fun σ224 hB e224 o224 f224 => ?_)
              try have u224_0 : σ224 29 21 = σ196 29 21 := by first | exact o224 21 (by decide) | exact congrFun (f224 29 (by decide)) 21
              try have u224_1 : σ224 29 22 = σ196 29 22 := by first | exact o224 22 (by decide) | exact congrFun (f224 29 (by decide)) 22
              try have u224_2 : σ224 29 36 = σ196 29 36 := by first | exact o224 36 (by decide) | exact congrFun (f224 29 (by decide)) 36
              try have u224_3 : σ224 29 37 = σ196 29 37 := by first | exact o224 37 (by decide) | exact congrFun (f224 29 (by decide)) 37
              try have u224_4 : σ224 29 40 = σ196 29 40 := by first | exact o224 40 (by decide) | exact congrFun (f224 29 (by decide)) 40
              have A44 : ∀ j, 0 ≤ σ224 44 j := by rw [f224 44 (by decide), f196 44 (by decide)]; exact A44
              have h440 : σ224 44 0 = σ 42 0 := by rw [f224 44 (by decide), f196 44 (by decide)]; exact h440
              have hS9 : pe_SW (pe_mk C r) (σ224 42) := by rw [f224 42 (by decide)]; exact hS9
              have hlast : c + 1 = C → ¬ pe_wi (σ224 42 (C * r + (C - 1)) % 65536) := by rw [f224 42 (by decide)]; exact hlast
              refine pe_iinc d_M_size_225 rfl ?_
              refine pe_goto (t := 73) d_M_size_228 ?_
              exact pe_drop 5 (pe_drop 6 (pe_drop 7 (pe_drop 8 (ih2 (_, _) ⟨hB, (fun b hb => (f224 b (by simp at hb ⊢; try omega)).trans ((f196 b (by simp at hb ⊢; try omega)).trans (hfr b (by simp at hb ⊢; try omega)))), A44, h440, hS9, hlast, hrR, by (try dsimp only); omega⟩ (by (try dsimp only); omega)))))
            · skip
              refine pe_iload d_M_size_208 rfl ?_
              refine pe_if_ne (t := 223) d_M_size_210 (by first | exact hB _ _ | exact hB0 _ _ | exact hBt _ _ | exact ⟨by omega, by omega⟩) (fun h210 => ?_) (fun h210 => ?_)
              · skip
                refine pe_iconst d_M_size_223 ?_
                refine pe_iastT d_M_size_224 rfl (by omega) (by omega) hB (by first | exact hB _ _ | exact hB0 _ _ | exact hBt _ _ | exact ⟨by omega, by omega⟩) (fun σ224 hB e224 o224 f224 => ?_)
                try have u224_0 : σ224 29 21 = σ196 29 21 := by first | exact o224 21 (by decide) | exact congrFun (f224 29 (by decide)) 21
                try have u224_1 : σ224 29 22 = σ196 29 22 := by first | exact o224 22 (by decide) | exact congrFun (f224 29 (by decide)) 22
                try have u224_2 : σ224 29 36 = σ196 29 36 := by first | exact o224 36 (by decide) | exact congrFun (f224 29 (by decide)) 36
                try have u224_3 : σ224 29 37 = σ196 29 37 := by first | exact o224 37 (by decide) | exact congrFun (f224 29 (by decide)) 37
                try have u224_4 : σ224 29 40 = σ196 29 40 := by first | exact o224 40 (by decide) | exact congrFun (f224 29 (by decide)) 40
                have A44 : ∀ j, 0 ≤ σ224 44 j := by rw [f224 44 (by decide), f196 44 (by decide)]; exact A44
                have h440 : σ224 44 0 = σ 42 0 := by rw [f224 44 (by decide), f196 44 (by decide)]; exact h440
                have hS9 : pe_SW (pe_mk C r) (σ224 42) := by rw [f224 42 (by decide)]; exact hS9
                have hlast : c + 1 = C → ¬ pe_wi (σ224 42 (C * r + (C - 1)) % 65536) := by rw [f224 42 (by decide)]; exact hlast
                refine pe_iinc d_M_size_225 rfl ?_
                refine pe_goto (t := 73) d_M_size_228 ?_
                exact pe_drop 5 (pe_drop 6 (pe_drop 7 (pe_drop 8 (ih2 (_, _) ⟨hB, (fun b hb => (f224 b (by simp at hb ⊢; try omega)).trans ((f196 b (by simp at hb ⊢; try omega)).trans (hfr b (by simp at hb ⊢; try omega)))), A44, h440, hS9, hlast, hrR, by (try dsimp only); omega⟩ (by (try dsimp only); omega)))))
              · skip
                refine pe_aload_n d_M_size_213 rfl ?_
                refine pe_getr f_M_65 d_M_size_214 rfl rfl ?_
                refine pe_iload d_M_size_217 rfl ?_
                refine pe_iald d_M_size_219 rfl (by omega) (by omega) ?_
                refine pe_goto (t := 224) d_M_size_220 ?_
                refine pe_iastT d_M_size_224 rfl (by omega) (by omega) hB (by first | exact hB _ _ | exact hB0 _ _ | exact hBt _ _ | exact ⟨by omega, by omega⟩) (fun σ224 hB e224 o224 f224 => ?_)
                try have u224_0 : σ224 29 21 = σ196 29 21 := by first | exact o224 21 (by decide) | exact congrFun (f224 29 (by decide)) 21
                try have u224_1 : σ224 29 22 = σ196 29 22 := by first | exact o224 22 (by decide) | exact congrFun (f224 29 (by decide)) 22
                try have u224_2 : σ224 29 36 = σ196 29 36 := by first | exact o224 36 (by decide) | exact congrFun (f224 29 (by decide)) 36
                try have u224_3 : σ224 29 37 = σ196 29 37 := by first | exact o224 37 (by decide) | exact congrFun (f224 29 (by decide)) 37
                try have u224_4 : σ224 29 40 = σ196 29 40 := by first | exact o224 40 (by decide) | exact congrFun (f224 29 (by decide)) 40
                have A44 : ∀ j, 0 ≤ σ224 44 j := by rw [f224 44 (by decide), f196 44 (by decide)]; exact A44
                have h440 : σ224 44 0 = σ 42 0 := by rw [f224 44 (by decide), f196 44 (by decide)]; exact h440
                have hS9 : pe_SW (pe_mk C r) (σ224 42) := by rw [f224 42 (by decide)]; exact hS9
                have hlast : c + 1 = C → ¬ pe_wi (σ224 42 (C * r + (C - 1)) % 65536) := by rw [f224 42 (by decide)]; exact hlast
                refine pe_iinc d_M_size_225 rfl ?_
                refine pe_goto (t := 73) d_M_size_228 ?_
                exact pe_drop 5 (pe_drop 6 (pe_drop 7 (pe_drop 8 (ih2 (_, _) ⟨hB, (fun b hb => (f224 b (by simp at hb ⊢; try omega)).trans ((f196 b (by simp at hb ⊢; try omega)).trans (hfr b (by simp at hb ⊢; try omega)))), A44, h440, hS9, hlast, hrR, by (try dsimp only); omega⟩ (by (try dsimp only); omega)))))
          · skip
            refine pe_aload_n d_M_size_184 rfl ?_
            refine pe_getr f_M_62 d_M_size_185 rfl rfl ?_
            refine pe_iload d_M_size_188 rfl ?_
            refine pe_iald d_M_size_190 rfl (by omega) (by omega) ?_
            refine pe_goto (t := 196) d_M_size_191 ?_
            refine pe_iastT d_M_size_196 rfl (by omega) (by omega) hB (by first | exact hB _ _ | exact hB0 _ _ | exact hBt _ _ | exact ⟨by omega, by omega⟩) (fun σ196 hB e196 o196 f196 => ?_)
            try have u196_0 : σ196 29 21 = τ2 29 21 := by first | exact o196 21 (by decide) | exact congrFun (f196 29 (by decide)) 21
            try have u196_1 : σ196 29 22 = τ2 29 22 := by first | exact o196 22 (by decide) | exact congrFun (f196 29 (by decide)) 22
            try have u196_2 : σ196 29 36 = τ2 29 36 := by first | exact o196 36 (by decide) | exact congrFun (f196 29 (by decide)) 36
            try have u196_3 : σ196 29 37 = τ2 29 37 := by first | exact o196 37 (by decide) | exact congrFun (f196 29 (by decide)) 37
            try have u196_4 : σ196 29 40 = τ2 29 40 := by first | exact o196 40 (by decide) | exact congrFun (f196 29 (by decide)) 40
            have hr0 : C * r + c = 0 → r = 0 ∧ c = 0 := fun e => by
              have h2 : C * r = 0 := by omega
              rcases Int.mul_eq_zero.mp h2 with h3 | h3 <;> omega
            have hv : 0 ≤ σ196 42 (C * r + c) ∧ (C * r + c = 0 → σ196 42 (C * r + c) ≠ 0) ∧ (pe_wi (σ196 42 (C * r + c) % 65536) → c ≠ C - 1) := by
              rw [e196]
              first
              | exact ⟨by omega, fun _ => by omega, fun z => absurd z (pe_nw (by omega))⟩
              | exact ⟨A44 _, fun e => by
                  obtain ⟨e1, e2⟩ := hr0 e
                  have e3 : f = 0 := by rw [hff (by omega), e1, e2]; simp
                  rw [e3, h440]; exact hS.2.1, fun z e => hh (by omega) (by omega) e z⟩
            have hS9 : pe_SW (pe_mk C r) (σ196 42) := pe_SW_up hS2 (i := C * r + c) rfl o196 hv.1 hv.2.1 (fun z r9 h1 h2 e => hv.2.2 z (pe_col (W := C) (r := r9) (c := C - 1) (r' := r) (c' := c) (by omega) (by omega) e).symm)
            have hlast : c + 1 = C → ¬ pe_wi (σ196 42 (C * r + (C - 1)) % 65536) := fun e z => by
              rw [show C - 1 = c by omega] at z
              exact hv.2.2 z (by omega)
            refine pe_aload_n d_M_size_197 rfl ?_
            refine pe_getr f_M_59 d_M_size_198 rfl rfl ?_
            refine pe_iload d_M_size_201 rfl ?_
            refine pe_iload d_M_size_203 rfl ?_
            refine pe_if_eq (t := 223) d_M_size_205 (by first | exact hB _ _ | exact hB0 _ _ | exact hBt _ _ | exact ⟨by omega, by omega⟩) (fun h205 => ?_) (fun h205 => ?_)
            · skip
              refine pe_iconst d_M_size_223 ?_
              refine pe_iastT d_M_size_224 rfl (by omega) (by omega) hB (by first | exact hB _ _ | exact hB0 _ _ | exact hBt _ _ | exact ⟨by omega, by omega⟩) (fun σ224 hB e224 o224 f224 => ?_)
              try have u224_0 : σ224 29 21 = σ196 29 21 := by first | exact o224 21 (by decide) | exact congrFun (f224 29 (by decide)) 21
              try have u224_1 : σ224 29 22 = σ196 29 22 := by first | exact o224 22 (by decide) | exact congrFun (f224 29 (by decide)) 22
              try have u224_2 : σ224 29 36 = σ196 29 36 := by first | exact o224 36 (by decide) | exact congrFun (f224 29 (by decide)) 36
              try have u224_3 : σ224 29 37 = σ196 29 37 := by first | exact o224 37 (by decide) | exact congrFun (f224 29 (by decide)) 37
              try have u224_4 : σ224 29 40 = σ196 29 40 := by first | exact o224 40 (by decide) | exact congrFun (f224 29 (by decide)) 40
              have A44 : ∀ j, 0 ≤ σ224 44 j := by rw [f224 44 (by decide), f196 44 (by decide)]; exact A44
              have h440 : σ224 44 0 = σ 42 0 := by rw [f224 44 (by decide), f196 44 (by decide)]; exact h440
              have hS9 : pe_SW (pe_mk C r) (σ224 42) := by rw [f224 42 (by decide)]; exact hS9
              have hlast : c + 1 = C → ¬ pe_wi (σ224 42 (C * r + (C - 1)) % 65536) := by rw [f224 42 (by decide)]; exact hlast
              refine pe_iinc d_M_size_225 rfl ?_
              refine pe_goto (t := 73) d_M_size_228 ?_
              exact pe_drop 5 (pe_drop 6 (pe_drop 7 (pe_drop 8 (ih2 (_, _) ⟨hB, (fun b hb => (f224 b (by simp at hb ⊢; try omega)).trans ((f196 b (by simp at hb ⊢; try omega)).trans (hfr b (by simp at hb ⊢; try omega)))), A44, h440, hS9, hlast, hrR, by (try dsimp only); omega⟩ (by (try dsimp only); omega)))))
            · skip
              refine pe_iload d_M_size_208 rfl ?_
              refine pe_if_ne (t := 223) d_M_size_210 (by first | exact hB _ _ | exact hB0 _ _ | exact hBt _ _ | exact ⟨by omega, by omega⟩) (fun h210 => ?_) (fun h210 => ?_)
              · skip
                refine pe_iconst d_M_size_223 ?_
                refine pe_iastT d_M_size_224 rfl (by omega) (by omega) hB (by first | exact hB _ _ | exact hB0 _ _ | exact hBt _ _ | exact ⟨by omega, by omega⟩) (fun σ224 hB e224 o224 f224 => ?_)
                try have u224_0 : σ224 29 21 = σ196 29 21 := by first | exact o224 21 (by decide) | exact congrFun (f224 29 (by decide)) 21
                try have u224_1 : σ224 29 22 = σ196 29 22 := by first | exact o224 22 (by decide) | exact congrFun (f224 29 (by decide)) 22
                try have u224_2 : σ224 29 36 = σ196 29 36 := by first | exact o224 36 (by decide) | exact congrFun (f224 29 (by decide)) 36
                try have u224_3 : σ224 29 37 = σ196 29 37 := by first | exact o224 37 (by decide) | exact congrFun (f224 29 (by decide)) 37
                try have u224_4 : σ224 29 40 = σ196 29 40 := by first | exact o224 40 (by decide) | exact congrFun (f224 29 (by decide)) 40
                have A44 : ∀ j, 0 ≤ σ224 44 j := by rw [f224 44 (by decide), f196 44 (by decide)]; exact A44
                have h440 : σ224 44 0 = σ 42 0 := by rw [f224 44 (by decide), f196 44 (by decide)]; exact h440
                have hS9 : pe_SW (pe_mk C r) (σ224 42) := by rw [f224 42 (by decide)]; exact hS9
                have hlast : c + 1 = C → ¬ pe_wi (σ224 42 (C * r + (C - 1)) % 65536) := by rw [f224 42 (by decide)]; exact hlast
                refine pe_iinc d_M_size_225 rfl ?_
                refine pe_goto (t := 73) d_M_size_228 ?_
                exact pe_drop 5 (pe_drop 6 (pe_drop 7 (pe_drop 8 (ih2 (_, _) ⟨hB, (fun b hb => (f224 b (by simp at hb ⊢; try omega)).trans ((f196 b (by simp at hb ⊢; try omega)).trans (hfr b (by simp at hb ⊢; try omega)))), A44, h440, hS9, hlast, hrR, by (try dsimp only); omega⟩ (by (try dsimp only); omega)))))
              · skip
                refine pe_aload_n d_M_size_213 rfl ?_
                refine pe_getr f_M_65 d_M_size_214 rfl rfl ?_
                refine pe_iload d_M_size_217 rfl ?_
                refine pe_iald d_M_size_219 rfl (by omega) (by omega) ?_
                refine pe_goto (t := 224) d_M_size_220 ?_
                refine pe_iastT d_M_size_224 rfl (by omega) (by omega) hB (by first | exact hB _ _ | exact hB0 _ _ | exact hBt _ _ | exact ⟨by omega, by omega⟩) (fun σ224 hB e224 o224 f224 => ?_)
                try have u224_0 : σ224 29 21 = σ196 29 21 := by first | exact o224 21 (by decide) | exact congrFun (f224 29 (by decide)) 21
                try have u224_1 : σ224 29 22 = σ196 29 22 := by first | exact o224 22 (by decide) | exact congrFun (f224 29 (by decide)) 22
                try have u224_2 : σ224 29 36 = σ196 29 36 := by first | exact o224 36 (by decide) | exact congrFun (f224 29 (by decide)) 36
                try have u224_3 : σ224 29 37 = σ196 29 37 := by first | exact o224 37 (by decide) | exact congrFun (f224 29 (by decide)) 37
                try have u224_4 : σ224 29 40 = σ196 29 40 := by first | exact o224 40 (by decide) | exact congrFun (f224 29 (by decide)) 40
                have A44 : ∀ j, 0 ≤ σ224 44 j := by rw [f224 44 (by decide), f196 44 (by decide)]; exact A44
                have h440 : σ224 44 0 = σ 42 0 := by rw [f224 44 (by decide), f196 44 (by decide)]; exact h440
                have hS9 : pe_SW (pe_mk C r) (σ224 42) := by rw [f224 42 (by decide)]; exact hS9
                have hlast : c + 1 = C → ¬ pe_wi (σ224 42 (C * r + (C - 1)) % 65536) := by rw [f224 42 (by decide)]; exact hlast
                refine pe_iinc d_M_size_225 rfl ?_
                refine pe_goto (t := 73) d_M_size_228 ?_
                exact pe_drop 5 (pe_drop 6 (pe_drop 7 (pe_drop 8 (ih2 (_, _) ⟨hB, (fun b hb => (f224 b (by simp at hb ⊢; try omega)).trans ((f196 b (by simp at hb ⊢; try omega)).trans (hfr b (by simp at hb ⊢; try omega)))), A44, h440, hS9, hlast, hrR, by (try dsimp only); omega⟩ (by (try dsimp only); omega)))))
      have J131 : ∀ x : Int × Int, ((c < C) ∧ (x.1 = 0 ∧ ¬ (r < σ 29 22 ∧ c < σ 29 21) ∨ (x.1 = 1 ∧ r < σ 29 22 ∧ c < σ 29 21)) ∧ (x.1 = 1 → x.2 = σ 29 21 * r + c) ∧ (0 ≤ x.2 ∧ x.2 < 192)) → pe_G m_M_size 131 [some (pe_r 29), some (pe_i C), some (pe_i R), some (pe_i r), some (pe_i c), some (pe_i (C * r + c)), some (pe_i x.1), some (pe_i x.2), none] [] τ2 (pe_qi (fun z σ' => pe_B σ' ∧ (∀ b, b ∉ [29, 42, 43, 44, 45] → σ' b = σ b) ∧ (∀ j, j ∉ ([21, 22, 36, 37, 38, 40, 41] : List Int) → σ' 29 j = σ 29 j) ∧ (z = 0 ∨ z = 1) ∧ (z = 1 ↔ 1 ≤ C ∧ C ≤ 24 ∧ 1 ≤ R ∧ R ≤ 8) ∧ (z = 0 → σ' = σ) ∧ (z = 1 → σ' 29 21 = C ∧ σ' 29 22 = R ∧ σ' 29 36 = 0 ∧ σ' 29 37 = 0 ∧ σ' 29 40 = -1) ∧ pe_SW (σ' 29) (σ' 42) ∧ (∀ j, 0 ≤ σ' 44 j))) := by
        intro x hI
        obtain ⟨t, f⟩ := x
        dsimp only at hI ⊢
        refine pe_iload d_M_size_131 rfl ?_
        refine pe_if_eq (t := 165) d_M_size_133 (by first | exact hB _ _ | exact hB0 _ _ | exact hBt _ _ | exact ⟨by omega, by omega⟩) (fun h133 => ?_) (fun h133 => ?_)
        · skip
          refine pe_iconst d_M_size_165 ?_
          refine pe_istore d_M_size_166 ?_
          exact J168 (_, _, _) ⟨by (try dsimp only); omega, by (try dsimp only); omega, hI.2.2.1, by (try dsimp only); omega, by (try dsimp only); omega, fun z1 z2 z3 => by first | (exfalso; (try dsimp only at *); omega) | exact fun z => by have q := hz155.2.mpr z; omega⟩
        · skip
          refine pe_iload d_M_size_136 rfl ?_
          refine pe_iload_n d_M_size_138 rfl ?_
          refine pe_iconst d_M_size_139 ?_
          refine pe_isub d_M_size_140 ?_
          refine pe_icmp_ne (t := 165) d_M_size_141 (by first | exact hB _ _ | exact hB0 _ _ | exact hBt _ _ | exact ⟨by omega, by omega⟩) (by first | exact hB _ _ | exact hB0 _ _ | exact hBt _ _ | exact ⟨by omega, by omega⟩) (fun h141 => ?_) (fun h141 => ?_)
          · skip
            refine pe_iconst d_M_size_165 ?_
            refine pe_istore d_M_size_166 ?_
            exact J168 (_, _, _) ⟨by (try dsimp only); omega, by (try dsimp only); omega, hI.2.2.1, by (try dsimp only); omega, by (try dsimp only); omega, fun z1 z2 z3 => by first | (exfalso; (try dsimp only at *); omega) | exact fun z => by have q := hz155.2.mpr z; omega⟩
          · skip
            refine pe_aload_n d_M_size_144 rfl ?_
            refine pe_getr f_M_62 d_M_size_145 rfl rfl ?_
            refine pe_iload d_M_size_148 rfl ?_
            refine pe_iald d_M_size_150 rfl (by omega) (by omega) ?_
            refine pe_ldcw q_M_256 d_M_size_151 (z := 65535) rfl ?_
            refine pe_iand d_M_size_154 (pe_and 16 65536 (by have q := A44 f; omega) (by have q := hB 44 f; omega)) ?_
            refine pe_s1p d_M_size_155 c_M_97 z_M_isWide (t_M_isWide (by first | exact hB _ _ | exact hB0 _ _ | exact hBt _ _ | exact ⟨by omega, by omega⟩)) (fun z155 hz155 => ?_)
            refine pe_if_eq (t := 165) d_M_size_158 (by first | exact hB _ _ | exact hB0 _ _ | exact hBt _ _ | exact ⟨by omega, by omega⟩) (fun h158 => ?_) (fun h158 => ?_)
            · skip
              refine pe_iconst d_M_size_165 ?_
              refine pe_istore d_M_size_166 ?_
              exact J168 (_, _, _) ⟨by (try dsimp only); omega, by (try dsimp only); omega, hI.2.2.1, by (try dsimp only); omega, by (try dsimp only); omega, fun z1 z2 z3 => by first | (exfalso; (try dsimp only at *); omega) | exact fun z => by have q := hz155.2.mpr z; omega⟩
            · skip
              refine pe_iconst d_M_size_161 ?_
              refine pe_goto (t := 166) d_M_size_162 ?_
              refine pe_istore d_M_size_166 ?_
              exact J168 (_, _, _) ⟨by (try dsimp only); omega, by (try dsimp only); omega, hI.2.2.1, by (try dsimp only); omega, by (try dsimp only); omega, fun z1 z2 z3 => by first | (exfalso; (try dsimp only at *); omega) | exact fun z => by have q := hz155.2.mpr z; omega⟩
      have J111 : ∀ t : Int, ((c < C) ∧ (t = 0 ∧ ¬ (r < σ 29 22 ∧ c < σ 29 21) ∨ (t = 1 ∧ r < σ 29 22 ∧ c < σ 29 21))) → pe_G m_M_size 111 [some (pe_r 29), some (pe_i C), some (pe_i R), some (pe_i r), some (pe_i c), some (pe_i (C * r + c)), some (pe_i t), none, none] [] τ2 (pe_qi (fun z σ' => pe_B σ' ∧ (∀ b, b ∉ [29, 42, 43, 44, 45] → σ' b = σ b) ∧ (∀ j, j ∉ ([21, 22, 36, 37, 38, 40, 41] : List Int) → σ' 29 j = σ 29 j) ∧ (z = 0 ∨ z = 1) ∧ (z = 1 ↔ 1 ≤ C ∧ C ≤ 24 ∧ 1 ≤ R ∧ R ≤ 8) ∧ (z = 0 → σ' = σ) ∧ (z = 1 → σ' 29 21 = C ∧ σ' 29 22 = R ∧ σ' 29 36 = 0 ∧ σ' 29 37 = 0 ∧ σ' 29 40 = -1) ∧ pe_SW (σ' 29) (σ' 42) ∧ (∀ j, 0 ≤ σ' 44 j))) := by
        intro t hI
        refine pe_iload d_M_size_111 rfl ?_
        refine pe_if_eq (t := 128) d_M_size_113 (by first | exact hB _ _ | exact hB0 _ _ | exact hBt _ _ | exact ⟨by omega, by omega⟩) (fun h113 => ?_) (fun h113 => ?_)
        · skip
          refine pe_iconst d_M_size_128 ?_
          refine pe_istore d_M_size_129 ?_
          exact J131 (_, _) ⟨by (try dsimp only); omega, by (try dsimp only); omega, fun z => by first | (rw [v_29_21]) | (exfalso; (try dsimp only at z); omega), by (try dsimp only); first | omega | (have ix2 := pe_ix (W := σ 29 21) (H := σ 29 22) (r := r) (c := c) (by omega) (by omega) (by omega) (by omega); rw [v_29_21]; omega)⟩
        · skip
          refine pe_aload_n d_M_size_116 rfl ?_
          refine pe_geti f_M_78 d_M_size_117 rfl rfl 21 rfl ?_
          refine pe_iload_n d_M_size_120 rfl ?_
          refine pe_imul d_M_size_121 ?_
          refine pe_iload d_M_size_122 rfl ?_
          refine pe_iadd d_M_size_124 ?_
          refine pe_goto (t := 129) d_M_size_125 ?_
          refine pe_istore d_M_size_129 ?_
          exact J131 (_, _) ⟨by (try dsimp only); omega, by (try dsimp only); omega, fun z => by first | (rw [v_29_21]) | (exfalso; (try dsimp only at z); omega), by (try dsimp only); first | omega | (have ix2 := pe_ix (W := σ 29 21) (H := σ 29 22) (r := r) (c := c) (by omega) (by omega) (by omega) (by omega); rw [v_29_21]; omega)⟩
      refine pe_iload d_M_size_73 rfl ?_
      refine pe_iload_n d_M_size_75 rfl ?_
      refine pe_icmp_ge (t := 231) d_M_size_76 (by first | exact hB _ _ | exact hB0 _ _ | exact hBt _ _ | exact ⟨by omega, by omega⟩) (by first | exact hB _ _ | exact hB0 _ _ | exact hBt _ _ | exact ⟨by omega, by omega⟩) (fun h76 => ?_) (fun h76 => ?_)
      · skip
        refine pe_iinc d_M_size_231 rfl ?_
        refine pe_goto (t := 65) d_M_size_234 ?_
        exact pe_drop 4 (pe_drop 5 (pe_drop 6 (pe_drop 7 (pe_drop 8 (ih (_, _) ⟨hB, (fun b hb => hfr b (by simp at hb ⊢; try omega)), A44, h440, ⟨hS2.1, hS2.2.1, fun r9 h1 h2 => by
            by_cases e : r9 = r
            · rw [e]; exact hlast (by omega)
            · exact hS2.2.2 r9 h1 (by have h3 : r9 < r + 1 := h2; show r9 < r; omega)⟩, by (try dsimp only); omega⟩ (by (try dsimp only); omega))))))
      · skip
        refine pe_iload_n d_M_size_79 rfl ?_
        refine pe_iload_n d_M_size_80 rfl ?_
        refine pe_imul d_M_size_81 ?_
        refine pe_iload d_M_size_82 rfl ?_
        refine pe_iadd d_M_size_84 ?_
        refine pe_istore d_M_size_85 ?_
        refine pe_iload_n d_M_size_87 rfl ?_
        refine pe_aload_n d_M_size_88 rfl ?_
        refine pe_geti f_M_81 d_M_size_89 rfl rfl 22 rfl ?_
        refine pe_icmp_ge (t := 108) d_M_size_92 (by first | exact hB _ _ | exact hB0 _ _ | exact hBt _ _ | exact ⟨by omega, by omega⟩) (by first | exact hB _ _ | exact hB0 _ _ | exact hBt _ _ | exact ⟨by omega, by omega⟩) (fun h92 => ?_) (fun h92 => ?_)
        · skip
          refine pe_iconst d_M_size_108 ?_
          refine pe_istore d_M_size_109 ?_
          exact J111 _ (by omega)
        · skip
          refine pe_iload d_M_size_95 rfl ?_
          refine pe_aload_n d_M_size_97 rfl ?_
          refine pe_geti f_M_78 d_M_size_98 rfl rfl 21 rfl ?_
          refine pe_icmp_ge (t := 108) d_M_size_101 (by first | exact hB _ _ | exact hB0 _ _ | exact hBt _ _ | exact ⟨by omega, by omega⟩) (by first | exact hB _ _ | exact hB0 _ _ | exact hBt _ _ | exact ⟨by omega, by omega⟩) (fun h101 => ?_) (fun h101 => ?_)
          · skip
            refine pe_iconst d_M_size_108 ?_
            refine pe_istore d_M_size_109 ?_
            exact J111 _ (by omega)
          · skip
            refine pe_iconst d_M_size_104 ?_
            refine pe_goto (t := 109) d_M_size_105 ?_
            refine pe_istore d_M_size_109 ?_
            exact J111 _ (by omega)
    refine pe_iload_n d_M_size_65 rfl ?_
    refine pe_iload_n d_M_size_66 rfl ?_
    refine pe_icmp_ge (t := 237) d_M_size_67 (by first | exact hB _ _ | exact hB0 _ _ | exact hBt _ _ | exact ⟨by omega, by omega⟩) (by first | exact hB _ _ | exact hB0 _ _ | exact hBt _ _ | exact ⟨by omega, by omega⟩) (fun h67 => ?_) (fun h67 => ?_)
    · skip
      refine pe_aload_n d_M_size_237 rfl ?_
      refine pe_iload_n d_M_size_238 rfl ?_
      refine pe_putiT f_M_78 g_11_21 d_M_size_239 rfl rfl 21 rfl hB (by first | exact hB _ _ | exact hB0 _ _ | exact hBt _ _ | exact ⟨by omega, by omega⟩) (fun σ239 hB e239 o239 f239 => ?_)
      try have u239_0 : σ239 29 21 = τ 29 21 := by first | exact o239 21 (by decide) | exact congrFun (f239 29 (by decide)) 21
      try have u239_1 : σ239 29 22 = τ 29 22 := by first | exact o239 22 (by decide) | exact congrFun (f239 29 (by decide)) 22
      try have u239_2 : σ239 29 36 = τ 29 36 := by first | exact o239 36 (by decide) | exact congrFun (f239 29 (by decide)) 36
      try have u239_3 : σ239 29 37 = τ 29 37 := by first | exact o239 37 (by decide) | exact congrFun (f239 29 (by decide)) 37
      try have u239_4 : σ239 29 40 = τ 29 40 := by first | exact o239 40 (by decide) | exact congrFun (f239 29 (by decide)) 40
      refine pe_aload_n d_M_size_242 rfl ?_
      refine pe_iload_n d_M_size_243 rfl ?_
      refine pe_putiT f_M_81 g_11_22 d_M_size_244 rfl rfl 22 rfl hB (by first | exact hB _ _ | exact hB0 _ _ | exact hBt _ _ | exact ⟨by omega, by omega⟩) (fun σ244 hB e244 o244 f244 => ?_)
      try have u244_0 : σ244 29 21 = σ239 29 21 := by first | exact o244 21 (by decide) | exact congrFun (f244 29 (by decide)) 21
      try have u244_1 : σ244 29 22 = σ239 29 22 := by first | exact o244 22 (by decide) | exact congrFun (f244 29 (by decide)) 22
      try have u244_2 : σ244 29 36 = σ239 29 36 := by first | exact o244 36 (by decide) | exact congrFun (f244 29 (by decide)) 36
      try have u244_3 : σ244 29 37 = σ239 29 37 := by first | exact o244 37 (by decide) | exact congrFun (f244 29 (by decide)) 37
      try have u244_4 : σ244 29 40 = σ239 29 40 := by first | exact o244 40 (by decide) | exact congrFun (f244 29 (by decide)) 40
      refine pe_aload_n d_M_size_247 rfl ?_
      refine pe_iconst d_M_size_248 ?_
      refine pe_putiT f_M_263 g_11_36 d_M_size_249 rfl rfl 36 rfl hB (by first | exact hB _ _ | exact hB0 _ _ | exact hBt _ _ | exact ⟨by omega, by omega⟩) (fun σ249 hB e249 o249 f249 => ?_)
      try have u249_0 : σ249 29 21 = σ244 29 21 := by first | exact o249 21 (by decide) | exact congrFun (f249 29 (by decide)) 21
      try have u249_1 : σ249 29 22 = σ244 29 22 := by first | exact o249 22 (by decide) | exact congrFun (f249 29 (by decide)) 22
      try have u249_2 : σ249 29 36 = σ244 29 36 := by first | exact o249 36 (by decide) | exact congrFun (f249 29 (by decide)) 36
      try have u249_3 : σ249 29 37 = σ244 29 37 := by first | exact o249 37 (by decide) | exact congrFun (f249 29 (by decide)) 37
      try have u249_4 : σ249 29 40 = σ244 29 40 := by first | exact o249 40 (by decide) | exact congrFun (f249 29 (by decide)) 40
      refine pe_aload_n d_M_size_252 rfl ?_
      refine pe_iconst d_M_size_253 ?_
      refine pe_putiT f_M_266 g_11_37 d_M_size_254 rfl rfl 37 rfl hB (by first | exact hB _ _ | exact hB0 _ _ | exact hBt _ _ | exact ⟨by omega, by omega⟩) (fun σ254 hB e254 o254 f254 => ?_)
      try have u254_0 : σ254 29 21 = σ249 29 21 := by first | exact o254 21 (by decide) | exact congrFun (f254 29 (by decide)) 21
      try have u254_1 : σ254 29 22 = σ249 29 22 := by first | exact o254 22 (by decide) | exact congrFun (f254 29 (by decide)) 22
      try have u254_2 : σ254 29 36 = σ249 29 36 := by first | exact o254 36 (by decide) | exact congrFun (f254 29 (by decide)) 36
      try have u254_3 : σ254 29 37 = σ249 29 37 := by first | exact o254 37 (by decide) | exact congrFun (f254 29 (by decide)) 37
      try have u254_4 : σ254 29 40 = σ249 29 40 := by first | exact o254 40 (by decide) | exact congrFun (f254 29 (by decide)) 40
      refine pe_aload_n d_M_size_257 rfl ?_
      refine pe_iconst d_M_size_258 ?_
      refine pe_putzT f_M_260 g_11_38 d_M_size_259 rfl rfl (by first | exact Or.inl rfl | exact Or.inr rfl | omega) 38 rfl hB (fun σ259 hB e259 o259 f259 => ?_)
      try have u259_0 : σ259 29 21 = σ254 29 21 := by first | exact o259 21 (by decide) | exact congrFun (f259 29 (by decide)) 21
      try have u259_1 : σ259 29 22 = σ254 29 22 := by first | exact o259 22 (by decide) | exact congrFun (f259 29 (by decide)) 22
      try have u259_2 : σ259 29 36 = σ254 29 36 := by first | exact o259 36 (by decide) | exact congrFun (f259 29 (by decide)) 36
      try have u259_3 : σ259 29 37 = σ254 29 37 := by first | exact o259 37 (by decide) | exact congrFun (f259 29 (by decide)) 37
      try have u259_4 : σ259 29 40 = σ254 29 40 := by first | exact o259 40 (by decide) | exact congrFun (f259 29 (by decide)) 40
      refine pe_aload_n d_M_size_262 rfl ?_
      refine pe_iconst d_M_size_263 ?_
      refine pe_putiT f_M_68 g_11_40 d_M_size_264 rfl rfl 40 rfl hB (by first | exact hB _ _ | exact hB0 _ _ | exact hBt _ _ | exact ⟨by omega, by omega⟩) (fun σ264 hB e264 o264 f264 => ?_)
      try have u264_0 : σ264 29 21 = σ259 29 21 := by first | exact o264 21 (by decide) | exact congrFun (f264 29 (by decide)) 21
      try have u264_1 : σ264 29 22 = σ259 29 22 := by first | exact o264 22 (by decide) | exact congrFun (f264 29 (by decide)) 22
      try have u264_2 : σ264 29 36 = σ259 29 36 := by first | exact o264 36 (by decide) | exact congrFun (f264 29 (by decide)) 36
      try have u264_3 : σ264 29 37 = σ259 29 37 := by first | exact o264 37 (by decide) | exact congrFun (f264 29 (by decide)) 37
      try have u264_4 : σ264 29 40 = σ259 29 40 := by first | exact o264 40 (by decide) | exact congrFun (f264 29 (by decide)) 40
      refine pe_aload_n d_M_size_267 rfl ?_
      refine pe_iconst d_M_size_268 ?_
      refine pe_putzT f_M_71 g_11_41 d_M_size_269 rfl rfl (by first | exact Or.inl rfl | exact Or.inr rfl | omega) 41 rfl hB (fun σ269 hB e269 o269 f269 => ?_)
      try have u269_0 : σ269 29 21 = σ264 29 21 := by first | exact o269 21 (by decide) | exact congrFun (f269 29 (by decide)) 21
      try have u269_1 : σ269 29 22 = σ264 29 22 := by first | exact o269 22 (by decide) | exact congrFun (f269 29 (by decide)) 22
      try have u269_2 : σ269 29 36 = σ264 29 36 := by first | exact o269 36 (by decide) | exact congrFun (f269 29 (by decide)) 36
      try have u269_3 : σ269 29 37 = σ264 29 37 := by first | exact o269 37 (by decide) | exact congrFun (f269 29 (by decide)) 37
      try have u269_4 : σ269 29 40 = σ264 29 40 := by first | exact o269 40 (by decide) | exact congrFun (f269 29 (by decide)) 40
      refine pe_iconst d_M_size_272 ?_
      refine pe_rz d_M_size_273 (by first | exact Or.inl rfl | exact Or.inr rfl | omega) ?_
      exact ⟨hB, (fun b hb => (f269 b (by simp at hb ⊢; try omega)).trans ((f264 b (by simp at hb ⊢; try omega)).trans ((f259 b (by simp at hb ⊢; try omega)).trans ((f254 b (by simp at hb ⊢; try omega)).trans ((f249 b (by simp at hb ⊢; try omega)).trans ((f244 b (by simp at hb ⊢; try omega)).trans ((f239 b (by simp at hb ⊢; try omega)).trans (hfr b (by simp at hb ⊢; try omega))))))))), (fun j hj => (o269 j (by simp at hj ⊢; try omega)).trans ((o264 j (by simp at hj ⊢; try omega)).trans ((o259 j (by simp at hj ⊢; try omega)).trans ((o254 j (by simp at hj ⊢; try omega)).trans ((o249 j (by simp at hj ⊢; try omega)).trans ((o244 j (by simp at hj ⊢; try omega)).trans ((o239 j (by simp at hj ⊢; try omega)).trans (congrFun (hfr 29 (by decide)) j)))))))), by omega, by omega, by omega, by omega, pe_SW_to hS1 (by show σ269 29 21 = C; omega) (by show σ269 29 22 = r; omega) ((f269 42 (by decide)).trans ((f264 42 (by decide)).trans ((f259 42 (by decide)).trans ((f254 42 (by decide)).trans ((f249 42 (by decide)).trans ((f244 42 (by decide)).trans ((f239 42 (by decide)).trans (rfl)))))))), by rw [show σ269 44 = τ 44 from ((f269 44 (by decide)).trans ((f264 44 (by decide)).trans ((f259 44 (by decide)).trans ((f254 44 (by decide)).trans ((f249 44 (by decide)).trans ((f244 44 (by decide)).trans ((f239 44 (by decide)).trans (rfl))))))))]; exact A44⟩
    · skip
      refine pe_iconst d_M_size_70 ?_
      refine pe_istore d_M_size_71 ?_
      exact pe_drop 5 (pe_drop 6 (pe_drop 7 (pe_drop 8 (J73 (_, _) ⟨hB, (fun b hb => hfr b (by simp at hb ⊢; try omega)), A44, h440, hS1, fun e => by (try dsimp only at e); omega, by (try dsimp only); omega, by (try dsimp only); omega⟩))))
  have J26 : ∀ x : Int × pe_H, (pe_B x.2 ∧ (∀ b, b ∉ [44, 45] → x.2 b = σ b) ∧ (∀ j, 0 ≤ x.2 44 j) ∧ (∀ j, 0 ≤ j → j < x.1 → x.2 44 j = σ 42 j) ∧ (0 ≤ x.1 ∧ x.1 ≤ 192 ∧ 1 ≤ C ∧ C ≤ 24 ∧ 1 ≤ R ∧ R ≤ 8)) → pe_G m_M_size 26 [some (pe_r 29), some (pe_i C), some (pe_i R), some (pe_i x.1), none, none, none, none, none] [] x.2 (pe_qi (fun z σ' => pe_B σ' ∧ (∀ b, b ∉ [29, 42, 43, 44, 45] → σ' b = σ b) ∧ (∀ j, j ∉ ([21, 22, 36, 37, 38, 40, 41] : List Int) → σ' 29 j = σ 29 j) ∧ (z = 0 ∨ z = 1) ∧ (z = 1 ↔ 1 ≤ C ∧ C ≤ 24 ∧ 1 ≤ R ∧ R ≤ 8) ∧ (z = 0 → σ' = σ) ∧ (z = 1 → σ' 29 21 = C ∧ σ' 29 22 = R ∧ σ' 29 36 = 0 ∧ σ' 29 37 = 0 ∧ σ' 29 40 = -1) ∧ pe_SW (σ' 29) (σ' 42) ∧ (∀ j, 0 ≤ σ' 44 j))) := by
    refine pe_loop (fun x : Int × pe_H => (300 - x.1).toNat) _ _ ?_
    intro x hI ih
    obtain ⟨k, τ⟩ := x
    dsimp only at hI ⊢
    obtain ⟨hB, hfr, hX⟩ := hI
    obtain ⟨A44, hcp, hX⟩ := hX
    have hBt := hB
    refine pe_iload_n d_M_size_26 rfl ?_
    refine pe_sipush d_M_size_27 ?_
    refine pe_icmp_ge (t := 63) d_M_size_30 (by first | exact hB _ _ | exact hB0 _ _ | exact hBt _ _ | exact ⟨by omega, by omega⟩) (by first | exact hB _ _ | exact hB0 _ _ | exact hBt _ _ | exact ⟨by omega, by omega⟩) (fun h30 => ?_) (fun h30 => ?_)
    · skip
      refine pe_iconst d_M_size_63 ?_
      refine pe_istore_n d_M_size_64 ?_
      exact J65 (_, _) ⟨hB, (fun b hb => hfr b (by simp at hb ⊢; try omega)), A44, hcp 0 (by omega) (by omega), ⟨by (try dsimp only); rw [hfr 42 (by decide)]; exact hS.1, by (try dsimp only); rw [hfr 42 (by decide)]; exact hS.2.1, fun r h1 h2 => absurd h2 (by show ¬ r < 0; omega)⟩, by (try dsimp only); omega⟩
    · skip
      refine pe_aload_n d_M_size_33 rfl ?_
      refine pe_getr f_M_62 d_M_size_34 rfl rfl ?_
      refine pe_iload_n d_M_size_37 rfl ?_
      refine pe_aload_n d_M_size_38 rfl ?_
      refine pe_getr f_M_56 d_M_size_39 rfl rfl ?_
      refine pe_iload_n d_M_size_42 rfl ?_
      refine pe_iald d_M_size_43 rfl (by omega) (by omega) ?_
      refine pe_iastT d_M_size_44 rfl (by omega) (by omega) hB (by first | exact hB _ _ | exact hB0 _ _ | exact hBt _ _ | exact ⟨by omega, by omega⟩) (fun σ44 hB e44 o44 f44 => ?_)
      try have u44_0 : σ44 29 21 = τ 29 21 := by first | exact o44 21 (by decide) | exact congrFun (f44 29 (by decide)) 21
      try have u44_1 : σ44 29 22 = τ 29 22 := by first | exact o44 22 (by decide) | exact congrFun (f44 29 (by decide)) 22
      try have u44_2 : σ44 29 36 = τ 29 36 := by first | exact o44 36 (by decide) | exact congrFun (f44 29 (by decide)) 36
      try have u44_3 : σ44 29 37 = τ 29 37 := by first | exact o44 37 (by decide) | exact congrFun (f44 29 (by decide)) 37
      try have u44_4 : σ44 29 40 = τ 29 40 := by first | exact o44 40 (by decide) | exact congrFun (f44 29 (by decide)) 40
      refine pe_aload_n d_M_size_45 rfl ?_
      refine pe_getr f_M_65 d_M_size_46 rfl rfl ?_
      refine pe_iload_n d_M_size_49 rfl ?_
      refine pe_aload_n d_M_size_50 rfl ?_
      refine pe_getr f_M_59 d_M_size_51 rfl rfl ?_
      refine pe_iload_n d_M_size_54 rfl ?_
      refine pe_iald d_M_size_55 rfl (by omega) (by omega) ?_
      refine pe_iastT d_M_size_56 rfl (by omega) (by omega) hB (by first | exact hB _ _ | exact hB0 _ _ | exact hBt _ _ | exact ⟨by omega, by omega⟩) (fun σ56 hB e56 o56 f56 => ?_)
      try have u56_0 : σ56 29 21 = σ44 29 21 := by first | exact o56 21 (by decide) | exact congrFun (f56 29 (by decide)) 21
      try have u56_1 : σ56 29 22 = σ44 29 22 := by first | exact o56 22 (by decide) | exact congrFun (f56 29 (by decide)) 22
      try have u56_2 : σ56 29 36 = σ44 29 36 := by first | exact o56 36 (by decide) | exact congrFun (f56 29 (by decide)) 36
      try have u56_3 : σ56 29 37 = σ44 29 37 := by first | exact o56 37 (by decide) | exact congrFun (f56 29 (by decide)) 37
      try have u56_4 : σ56 29 40 = σ44 29 40 := by first | exact o56 40 (by decide) | exact congrFun (f56 29 (by decide)) 40
      have A44 : ∀ j, 0 ≤ σ56 44 j := by
        intro j
        rw [f56 44 (by decide)]
        by_cases e : j = k
        · rw [e, e44, hfr 42 (by decide)]; exact hS.1 k
        · rw [o44 j e]; exact A44 j
      have hcp : ∀ j, 0 ≤ j → j < k + 1 → σ56 44 j = σ 42 j := by
        intro j h1 h2
        rw [f56 44 (by decide)]
        by_cases e : j = k
        · rw [e, e44, hfr 42 (by decide)]
        · rw [o44 j e]; exact hcp j h1 (by omega)
      refine pe_iinc d_M_size_57 rfl ?_
      refine pe_goto (t := 26) d_M_size_60 ?_
      exact ih (_, _) ⟨hB, (fun b hb => (f56 b (by simp at hb ⊢; try omega)).trans ((f44 b (by simp at hb ⊢; try omega)).trans (hfr b (by simp at hb ⊢; try omega)))), A44, hcp, by (try dsimp only); omega⟩ (by (try dsimp only); omega)
  refine pe_iload_n d_M_size_0 rfl ?_
  refine pe_iconst d_M_size_1 ?_
  refine pe_icmp_lt (t := 22) d_M_size_2 (by first | exact hB _ _ | exact hB0 _ _ | exact hBt _ _ | exact ⟨by omega, by omega⟩) (by first | exact hB _ _ | exact hB0 _ _ | exact hBt _ _ | exact ⟨by omega, by omega⟩) (fun h2 => ?_) (fun h2 => ?_)
  · skip
    refine pe_iconst d_M_size_22 ?_
    refine pe_rz d_M_size_23 (by first | exact Or.inl rfl | exact Or.inr rfl | omega) ?_
    exact ⟨hB, (fun b hb => rfl), (fun j hj => rfl), by omega, by omega, fun _ => rfl, by omega, hS, A44⟩
  · skip
    refine pe_iload_n d_M_size_5 rfl ?_
    refine pe_bipush d_M_size_6 ?_
    refine pe_icmp_gt (t := 22) d_M_size_8 (by first | exact hB _ _ | exact hB0 _ _ | exact hBt _ _ | exact ⟨by omega, by omega⟩) (by first | exact hB _ _ | exact hB0 _ _ | exact hBt _ _ | exact ⟨by omega, by omega⟩) (fun h8 => ?_) (fun h8 => ?_)
    · skip
      refine pe_iconst d_M_size_22 ?_
      refine pe_rz d_M_size_23 (by first | exact Or.inl rfl | exact Or.inr rfl | omega) ?_
      exact ⟨hB, (fun b hb => rfl), (fun j hj => rfl), by omega, by omega, fun _ => rfl, by omega, hS, A44⟩
    · skip
      refine pe_iload_n d_M_size_11 rfl ?_
      refine pe_iconst d_M_size_12 ?_
      refine pe_icmp_lt (t := 22) d_M_size_13 (by first | exact hB _ _ | exact hB0 _ _ | exact hBt _ _ | exact ⟨by omega, by omega⟩) (by first | exact hB _ _ | exact hB0 _ _ | exact hBt _ _ | exact ⟨by omega, by omega⟩) (fun h13 => ?_) (fun h13 => ?_)
      · skip
        refine pe_iconst d_M_size_22 ?_
        refine pe_rz d_M_size_23 (by first | exact Or.inl rfl | exact Or.inr rfl | omega) ?_
        exact ⟨hB, (fun b hb => rfl), (fun j hj => rfl), by omega, by omega, fun _ => rfl, by omega, hS, A44⟩
      · skip
        refine pe_iload_n d_M_size_16 rfl ?_
        refine pe_bipush d_M_size_17 ?_
        refine pe_icmp_le (t := 24) d_M_size_19 (by first | exact hB _ _ | exact hB0 _ _ | exact hBt _ _ | exact ⟨by omega, by omega⟩) (by first | exact hB _ _ | exact hB0 _ _ | exact hBt _ _ | exact ⟨by omega, by omega⟩) (fun h19 => ?_) (fun h19 => ?_)
        · skip
          refine pe_iconst d_M_size_24 ?_
          refine pe_istore_n d_M_size_25 ?_
          exact J26 (_, _) ⟨hB, (fun b hb => rfl), A44, fun j h1 h2 => by (try dsimp only at *); omega, by (try dsimp only); omega⟩
        · skip
          refine pe_iconst d_M_size_22 ?_
          refine pe_rz d_M_size_23 (by first | exact Or.inl rfl | exact Or.inr rfl | omega) ?_
          exact ⟨hB, (fun b hb => rfl), (fun j hj => rfl), by omega, by omega, fun _ => rfl, by omega, hS, A44⟩
