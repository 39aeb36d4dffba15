/-! the changes kept: n of them, the latest in the place T modulo 12, the text having L characters behind it -/
def pe_ch (p c u w : Int → Int) : Nat → Int → Int → Prop
  | 0, _, L => 0 ≤ L ∧ L ≤ 200
  | n + 1, T, L => (0 ≤ L ∧ L ≤ 200) ∧ (0 ≤ p (T % 12) ∧ 0 ≤ c (T % 12) ∧ 0 ≤ u (T % 12)) ∧ ((w (T % 12) = 0 ∧ p (T % 12) + c (T % 12) ≤ L ∧ u (T % 12) ≤ L - c (T % 12) ∧ pe_ch p c u w n (T - 1) (L - c (T % 12))) ∨ (w (T % 12) ≠ 0 ∧ p (T % 12) ≤ L ∧ u (T % 12) ≤ L + c (T % 12) ∧ pe_ch p c u w n (T - 1) (L + c (T % 12))))
theorem pe_ch_len {p c u w : Int → Int} : ∀ {n : Nat} {T L : Int}, pe_ch p c u w n T L → 0 ≤ L ∧ L ≤ 200
  | 0, _, _, h => h
  | _ + 1, _, _, h => h.1
theorem pe_ch_drop {p c u w : Int → Int} : ∀ (n : Nat) (T L : Int), pe_ch p c u w (n + 1) T L → pe_ch p c u w n T L
  | 0, _, _, h => h.1
  | n + 1, T, L, h => ⟨h.1, h.2.1, h.2.2.imp (fun q => ⟨q.1, q.2.1, q.2.2.1, pe_ch_drop n _ _ q.2.2.2⟩) (fun q => ⟨q.1, q.2.1, q.2.2.1, pe_ch_drop n _ _ q.2.2.2⟩)⟩
theorem pe_ch_mod {p c u w : Int → Int} : ∀ (n : Nat) (T T' L : Int), T % 12 = T' % 12 → pe_ch p c u w n T L → pe_ch p c u w n T' L
  | 0, _, _, _, _, h => h
  | n + 1, T, T', L, e, h => by
    unfold pe_ch at h ⊢
    rw [← e]
    exact ⟨h.1, h.2.1, h.2.2.imp (fun q => ⟨q.1, q.2.1, q.2.2.1, pe_ch_mod n _ _ _ (by omega) q.2.2.2⟩) (fun q => ⟨q.1, q.2.1, q.2.2.1, pe_ch_mod n _ _ _ (by omega) q.2.2.2⟩)⟩
theorem pe_ch_congr {p c u w p' c' u' w' : Int → Int} : ∀ (n : Nat) (T L : Int), (∀ i : Int, 0 ≤ i → i < n → p' ((T - i) % 12) = p ((T - i) % 12) ∧ c' ((T - i) % 12) = c ((T - i) % 12) ∧ u' ((T - i) % 12) = u ((T - i) % 12) ∧ w' ((T - i) % 12) = w ((T - i) % 12)) → pe_ch p c u w n T L → pe_ch p' c' u' w' n T L
  | 0, _, _, _, h => h
  | n + 1, T, L, e, h => by
    unfold pe_ch at h ⊢
    have e0 := e 0 (by omega) (by omega)
    rw [Int.sub_zero] at e0
    rw [e0.1, e0.2.1, e0.2.2.1, e0.2.2.2]
    have en : ∀ i : Int, 0 ≤ i → i < n → p' ((T - 1 - i) % 12) = p ((T - 1 - i) % 12) ∧ c' ((T - 1 - i) % 12) = c ((T - 1 - i) % 12) ∧ u' ((T - 1 - i) % 12) = u ((T - 1 - i) % 12) ∧ w' ((T - 1 - i) % 12) = w ((T - 1 - i) % 12) := fun i h1 h2 => by
      have := e (i + 1) (by omega) (by omega)
      rw [show T - (i + 1) = T - 1 - i by omega] at this
      exact this
    exact ⟨h.1, h.2.1, h.2.2.imp (fun q => ⟨q.1, q.2.1, q.2.2.1, pe_ch_congr n _ _ en q.2.2.2⟩) (fun q => ⟨q.1, q.2.1, q.2.2.1, pe_ch_congr n _ _ en q.2.2.2⟩)⟩
theorem pe_ch_push {p c u w p' c' u' w' : Int → Int} {n : Nat} {T L s L' : Int} (h : pe_ch p c u w n T L) (hn : n ≤ 11) (hs : s = (T + 1) % 12) (ho : ∀ j, j ≠ s → p' j = p j ∧ c' j = c j ∧ u' j = u j ∧ w' j = w j) (hL : 0 ≤ L' ∧ L' ≤ 200) (h0 : 0 ≤ p' s ∧ 0 ≤ c' s ∧ 0 ≤ u' s) (he : (w' s = 0 ∧ p' s + c' s ≤ L' ∧ u' s ≤ L' - c' s ∧ L' - c' s = L) ∨ (w' s ≠ 0 ∧ p' s ≤ L' ∧ u' s ≤ L' + c' s ∧ L' + c' s = L)) : pe_ch p' c' u' w' (n + 1) (T + 1) L' := by
  have hc : pe_ch p' c' u' w' n T L := pe_ch_congr n T L (fun i h1 h2 => ho _ (by omega)) h
  subst hs
  refine ⟨hL, h0, ?_⟩
  have e : T + 1 - 1 = T := by omega
  rcases he with ⟨a, b, d, f⟩ | ⟨a, b, d, f⟩
  · exact Or.inl ⟨a, b, d, by rw [e, f]; exact hc⟩
  · exact Or.inr ⟨a, b, d, by rw [e, f]; exact hc⟩
/-- the changes kept, of the class -/
def pe_HI (h p c u w t : Int → Int) : Prop := (0 ≤ h 5 ∧ h 5 ≤ 11) ∧ (0 ≤ h 6 ∧ h 6 ≤ 12) ∧ pe_ch p c u w (h 6).toNat (h 5 + h 6 - 1) (t 1)
theorem t_H_newSlot {σ : pe_H} (hB : pe_B σ) (hh : pe_HI (σ 5) (σ 6) (σ 7) (σ 8) (σ 9) (σ 3)) : pe_M m_H_newSlot [pe_r 5] σ (pe_qi (fun z σ' => pe_B σ' ∧ (∀ b, b ∉ [5] → σ' b = σ b) ∧ (0 ≤ z ∧ z < 12) ∧ (0 ≤ σ' 5 5 ∧ σ' 5 5 ≤ 11) ∧ (1 ≤ σ' 5 6 ∧ σ' 5 6 ≤ 12) ∧ ∃ (n : Nat) (T : Int), pe_ch (σ 6) (σ 7) (σ 8) (σ 9) n T (σ 3 1) ∧ n ≤ 11 ∧ z = (T + 1) % 12 ∧ (σ' 5 6).toNat = n + 1 ∧ (σ' 5 5 + σ' 5 6 - 1) % 12 = (T + 1) % 12)) := by
  refine pe_in0 (lv := [some (pe_r 5)]) ?_
  have hB0 := hB
  obtain ⟨hh1, hh2, hch⟩ := hh
  have hlen := pe_ch_len hch
  refine pe_aload_n d_H_newSlot_0 rfl ?_
  refine pe_geti f_H_38 d_H_newSlot_1 rfl rfl 6 rfl ?_
  refine pe_bipush d_H_newSlot_4 ?_
  refine pe_icmp_ge (t := 22) d_H_newSlot_6 (by first | exact hB _ _ | exact hB0 _ _ | exact hBt _ _ | exact ⟨by omega, by omega⟩) (by first | exact hB _ _ | exact hB0 _ _ | exact hBt _ _ | exact ⟨by omega, by omega⟩) (fun h6 => ?_) (fun h6 => ?_)
  · skip
    refine pe_aload_n d_H_newSlot_22 rfl ?_
    refine pe_aload_n d_H_newSlot_23 rfl ?_
    refine pe_geti f_H_42 d_H_newSlot_24 rfl rfl 5 rfl ?_
    refine pe_iconst d_H_newSlot_27 ?_
    refine pe_iadd d_H_newSlot_28 ?_
    refine pe_bipush d_H_newSlot_29 ?_
    refine pe_iremN d_H_newSlot_31 (by omega) (by omega) ?_
    refine pe_putiT f_H_42 g_4_5 d_H_newSlot_32 rfl rfl 5 rfl hB (by first | exact hB _ _ | exact hB0 _ _ | exact hBt _ _ | exact ⟨by omega, by omega⟩) (fun σ32 hB e32 o32 f32 => ?_)
    try have u32_0 : σ32 5 5 = σ 5 5 := by first | exact o32 5 (by decide) | exact congrFun (f32 5 (by decide)) 5
    try have u32_1 : σ32 5 6 = σ 5 6 := by first | exact o32 6 (by decide) | exact congrFun (f32 5 (by decide)) 6
    try have u32_2 : σ32 3 1 = σ 3 1 := by first | exact o32 1 (by decide) | exact congrFun (f32 3 (by decide)) 1
    refine pe_aload_n d_H_newSlot_35 rfl ?_
    refine pe_geti f_H_42 d_H_newSlot_36 rfl rfl 5 rfl ?_
    refine pe_aload_n d_H_newSlot_39 rfl ?_
    refine pe_geti f_H_38 d_H_newSlot_40 rfl rfl 6 rfl ?_
    refine pe_iadd d_H_newSlot_43 ?_
    refine pe_iconst d_H_newSlot_44 ?_
    refine pe_isub d_H_newSlot_45 ?_
    refine pe_bipush d_H_newSlot_46 ?_
    refine pe_iremN d_H_newSlot_48 (by omega) (by omega) ?_
    refine pe_ri d_H_newSlot_49 ?_
    first
    | exact ⟨hB, (fun b hb => (f32 b (by simp at hb ⊢; try omega)).trans (rfl)), by omega, by omega, by omega, (σ 5 6).toNat, σ 5 5 + σ 5 6 - 1, hch, by omega, by omega, by omega, by omega⟩
    | exact ⟨hB, (fun b hb => (f32 b (by simp at hb ⊢; try omega)).trans (rfl)), by omega, by omega, by omega, 11, σ 5 5 + σ 5 6 - 1, by have q := hch; rw [show (σ 5 6).toNat = 11 + 1 by omega] at q; exact pe_ch_drop 11 _ _ q, by omega, by omega, by omega, by omega⟩
  · skip
    refine pe_aload_n d_H_newSlot_9 rfl ?_
    refine pe_dup d_H_newSlot_10 ?_
    refine pe_geti f_H_38 d_H_newSlot_11 rfl rfl 6 rfl ?_
    refine pe_iconst d_H_newSlot_14 ?_
    refine pe_iadd d_H_newSlot_15 ?_
    refine pe_putiT f_H_38 g_4_6 d_H_newSlot_16 rfl rfl 6 rfl hB (by first | exact hB _ _ | exact hB0 _ _ | exact hBt _ _ | exact ⟨by omega, by omega⟩) (fun σ16 hB e16 o16 f16 => ?_)
    try have u16_0 : σ16 5 5 = σ 5 5 := by first | exact o16 5 (by decide) | exact congrFun (f16 5 (by decide)) 5
    try have u16_1 : σ16 5 6 = σ 5 6 := by first | exact o16 6 (by decide) | exact congrFun (f16 5 (by decide)) 6
    try have u16_2 : σ16 3 1 = σ 3 1 := by first | exact o16 1 (by decide) | exact congrFun (f16 3 (by decide)) 1
    refine pe_goto (t := 35) d_H_newSlot_19 ?_
    refine pe_aload_n d_H_newSlot_35 rfl ?_
    refine pe_geti f_H_42 d_H_newSlot_36 rfl rfl 5 rfl ?_
    refine pe_aload_n d_H_newSlot_39 rfl ?_
    refine pe_geti f_H_38 d_H_newSlot_40 rfl rfl 6 rfl ?_
    refine pe_iadd d_H_newSlot_43 ?_
    refine pe_iconst d_H_newSlot_44 ?_
    refine pe_isub d_H_newSlot_45 ?_
    refine pe_bipush d_H_newSlot_46 ?_
    refine pe_iremN d_H_newSlot_48 (by omega) (by omega) ?_
    refine pe_ri d_H_newSlot_49 ?_
    first
    | exact ⟨hB, (fun b hb => (f16 b (by simp at hb ⊢; try omega)).trans (rfl)), by omega, by omega, by omega, (σ 5 6).toNat, σ 5 5 + σ 5 6 - 1, hch, by omega, by omega, by omega, by omega⟩
    | exact ⟨hB, (fun b hb => (f16 b (by simp at hb ⊢; try omega)).trans (rfl)), by omega, by omega, by omega, 11, σ 5 5 + σ 5 6 - 1, by have q := hch; rw [show (σ 5 6).toNat = 11 + 1 by omega] at q; exact pe_ch_drop 11 _ _ q, by omega, by omega, by omega, by omega⟩
theorem t_H_keepInsertion {σ : pe_H} {p c : Int} (hB : pe_B σ) (hh : pe_HI (σ 5) (σ 6) (σ 7) (σ 8) (σ 9) (σ 3)) (hp : 0 ≤ p ∧ p ≤ σ 3 1) (hc : 0 ≤ c ∧ σ 3 1 + c ≤ 200) : pe_M m_H_keepInsertion [pe_r 5, pe_i p, pe_i c] σ (pe_qv (fun σ' => pe_B σ' ∧ (∀ b, b ∉ [5, 6, 7, 8, 9] → σ' b = σ b) ∧ pe_HI (σ' 5) (σ' 6) (σ' 7) (σ' 8) (σ' 9) (fun _ => σ 3 1 + c))) := by
  refine pe_in0 (lv := [some (pe_r 5), some (pe_i p), some (pe_i c), none]) ?_
  have hB0 := hB
  have hlen := pe_ch_len hh.2.2
  refine pe_aload_n d_H_keepInsertion_0 rfl ?_
  refine pe_v0i d_H_keepInsertion_1 c_H_28 i_H_newSlot s_H_newSlot rfl rfl (t_H_newSlot hB hh) (fun z1 σ1 hz1 => ?_)
  obtain ⟨hB, f1, x1⟩ := hz1
  try have u1_0 : σ1 5 5 = σ 5 5 := by first | exact o1 5 (by decide) | exact congrFun (f1 5 (by decide)) 5
  try have u1_1 : σ1 5 6 = σ 5 6 := by first | exact o1 6 (by decide) | exact congrFun (f1 5 (by decide)) 6
  try have u1_2 : σ1 3 1 = σ 3 1 := by first | exact o1 1 (by decide) | exact congrFun (f1 3 (by decide)) 1
  have hzz : 0 ≤ z1 ∧ z1 < 12 := x1.1
  refine pe_istore_n d_H_keepInsertion_4 ?_
  refine pe_aload_n d_H_keepInsertion_5 rfl ?_
  refine pe_getr f_H_9 d_H_keepInsertion_6 rfl rfl ?_
  refine pe_iload_n d_H_keepInsertion_9 rfl ?_
  refine pe_iload_n d_H_keepInsertion_10 rfl ?_
  refine pe_iastT d_H_keepInsertion_11 rfl (by omega) (by omega) hB (by first | exact hB _ _ | exact hB0 _ _ | exact hBt _ _ | exact ⟨by omega, by omega⟩) (fun σ11 hB e11 o11 f11 => ?_)
  try have u11_0 : σ11 5 5 = σ1 5 5 := by first | exact o11 5 (by decide) | exact congrFun (f11 5 (by decide)) 5
  try have u11_1 : σ11 5 6 = σ1 5 6 := by first | exact o11 6 (by decide) | exact congrFun (f11 5 (by decide)) 6
  try have u11_2 : σ11 3 1 = σ1 3 1 := by first | exact o11 1 (by decide) | exact congrFun (f11 3 (by decide)) 1
  refine pe_aload_n d_H_keepInsertion_12 rfl ?_
  refine pe_getr f_H_15 d_H_keepInsertion_13 rfl rfl ?_
  refine pe_iload_n d_H_keepInsertion_16 rfl ?_
  refine pe_iload_n d_H_keepInsertion_17 rfl ?_
  refine pe_iastT d_H_keepInsertion_18 rfl (by omega) (by omega) hB (by first | exact hB _ _ | exact hB0 _ _ | exact hBt _ _ | exact ⟨by omega, by omega⟩) (fun σ18 hB e18 o18 f18 => ?_)
  try have u18_0 : σ18 5 5 = σ11 5 5 := by first | exact o18 5 (by decide) | exact congrFun (f18 5 (by decide)) 5
  try have u18_1 : σ18 5 6 = σ11 5 6 := by first | exact o18 6 (by decide) | exact congrFun (f18 5 (by decide)) 6
  try have u18_2 : σ18 3 1 = σ11 3 1 := by first | exact o18 1 (by decide) | exact congrFun (f18 3 (by decide)) 1
  refine pe_aload_n d_H_keepInsertion_19 rfl ?_
  refine pe_getr f_H_18 d_H_keepInsertion_20 rfl rfl ?_
  refine pe_iload_n d_H_keepInsertion_23 rfl ?_
  refine pe_iload_n d_H_keepInsertion_24 rfl ?_
  refine pe_iastT d_H_keepInsertion_25 rfl (by omega) (by omega) hB (by first | exact hB _ _ | exact hB0 _ _ | exact hBt _ _ | exact ⟨by omega, by omega⟩) (fun σ25 hB e25 o25 f25 => ?_)
  try have u25_0 : σ25 5 5 = σ18 5 5 := by first | exact o25 5 (by decide) | exact congrFun (f25 5 (by decide)) 5
  try have u25_1 : σ25 5 6 = σ18 5 6 := by first | exact o25 6 (by decide) | exact congrFun (f25 5 (by decide)) 6
  try have u25_2 : σ25 3 1 = σ18 3 1 := by first | exact o25 1 (by decide) | exact congrFun (f25 3 (by decide)) 1
  refine pe_aload_n d_H_keepInsertion_26 rfl ?_
  refine pe_getr f_H_21 d_H_keepInsertion_27 rfl rfl ?_
  refine pe_iload_n d_H_keepInsertion_30 rfl ?_
  refine pe_iconst d_H_keepInsertion_31 ?_
  refine pe_zastT d_H_keepInsertion_32 rfl (by omega) (by omega) (by first | exact Or.inl rfl | exact Or.inr rfl | omega) hB (fun σ32 hB e32 o32 f32 => ?_)
  try have u32_0 : σ32 5 5 = σ25 5 5 := by first | exact o32 5 (by decide) | exact congrFun (f32 5 (by decide)) 5
  try have u32_1 : σ32 5 6 = σ25 5 6 := by first | exact o32 6 (by decide) | exact congrFun (f32 5 (by decide)) 6
  try have u32_2 : σ32 3 1 = σ25 3 1 := by first | exact o32 1 (by decide) | exact congrFun (f32 3 (by decide)) 1
  refine pe_rv d_H_keepInsertion_33 ?_
  obtain ⟨hz1, hz2, hz3, n0, T0, hc0, hn0, hs0, hk0, hT0⟩ := x1
  have q6 : σ32 6 = σ11 6 := (f32 6 (by decide)).trans ((f25 6 (by decide)).trans ((f18 6 (by decide)).trans (rfl)))
  have p6 : σ1 6 = σ 6 := (f1 6 (by decide)).trans (rfl)
  have q7 : σ32 7 = σ18 7 := (f32 7 (by decide)).trans ((f25 7 (by decide)).trans (rfl))
  have p7 : σ11 7 = σ 7 := (f11 7 (by decide)).trans ((f1 7 (by decide)).trans (rfl))
  have q8 : σ32 8 = σ25 8 := (f32 8 (by decide)).trans (rfl)
  have p8 : σ18 8 = σ 8 := (f18 8 (by decide)).trans ((f11 8 (by decide)).trans ((f1 8 (by decide)).trans (rfl)))
  have q9 : σ32 9 = σ32 9 := rfl
  have p9 : σ25 9 = σ 9 := (f25 9 (by decide)).trans ((f18 9 (by decide)).trans ((f11 9 (by decide)).trans ((f1 9 (by decide)).trans (rfl))))
  have q5 : σ32 5 = σ1 5 := (f32 5 (by decide)).trans ((f25 5 (by decide)).trans ((f18 5 (by decide)).trans ((f11 5 (by decide)).trans (rfl))))
  have q3 : σ32 3 = σ 3 := (f32 3 (by decide)).trans ((f25 3 (by decide)).trans ((f18 3 (by decide)).trans ((f11 3 (by decide)).trans ((f1 3 (by decide)).trans (rfl)))))
  refine ⟨hB, (fun b hb => (f32 b (by simp at hb ⊢; try omega)).trans ((f25 b (by simp at hb ⊢; try omega)).trans ((f18 b (by simp at hb ⊢; try omega)).trans ((f11 b (by simp at hb ⊢; try omega)).trans ((f1 b (by simp at hb ⊢; try omega)).trans (rfl)))))), ⟨by rw [q5]; omega, by rw [q5]; omega, ?_⟩⟩
  show pe_ch (σ32 6) (σ32 7) (σ32 8) (σ32 9) (σ32 5 6).toNat (σ32 5 5 + σ32 5 6 - 1) (σ 3 1 + c)
  rw [q5, hk0, q6, q7, q8, q9]
  refine pe_ch_mod _ _ _ _ hT0.symm ?_
  refine pe_ch_push hc0 hn0 hs0 (fun j hj => ⟨?_, ?_, ?_, ?_⟩) ?_ ?_ ?_
  · rw [o11 j hj, p6]
  · rw [o18 j hj, p7]
  · rw [o25 j hj, p8]
  · rw [o32 j hj, p9]
  · omega
  · rw [e11, e18, e25]; omega
  · rw [e11, e18, e25, e32]; omega
theorem t_H_keepRemoval {σ : pe_H} {p c u : Int} (hB : pe_B σ) (hh : pe_HI (σ 5) (σ 6) (σ 7) (σ 8) (σ 9) (σ 3)) (hp : 0 ≤ p ∧ 0 ≤ c ∧ p + c ≤ σ 3 1) (hu : 0 ≤ u ∧ u ≤ σ 3 1) : pe_M m_H_keepRemoval [pe_r 5, pe_r 3, pe_i p, pe_i c, pe_i u] σ (pe_qv (fun σ' => pe_B σ' ∧ (∀ b, b ∉ [5, 6, 7, 8, 9, 10] → σ' b = σ b) ∧ pe_HI (σ' 5) (σ' 6) (σ' 7) (σ' 8) (σ' 9) (fun _ => σ 3 1 - c))) := by
  refine pe_in0 (lv := [some (pe_r 5), some (pe_r 3), some (pe_i p), some (pe_i c), some (pe_i u), none]) ?_
  have hB0 := hB
  have hlen := pe_ch_len hh.2.2
  refine pe_aload_n d_H_keepRemoval_0 rfl ?_
  refine pe_v0i d_H_keepRemoval_1 c_H_28 i_H_newSlot s_H_newSlot rfl rfl (t_H_newSlot hB hh) (fun z1 σ1 hz1 => ?_)
  obtain ⟨hB, f1, x1⟩ := hz1
  try have u1_0 : σ1 5 5 = σ 5 5 := by first | exact o1 5 (by decide) | exact congrFun (f1 5 (by decide)) 5
  try have u1_1 : σ1 5 6 = σ 5 6 := by first | exact o1 6 (by decide) | exact congrFun (f1 5 (by decide)) 6
  try have u1_2 : σ1 3 1 = σ 3 1 := by first | exact o1 1 (by decide) | exact congrFun (f1 3 (by decide)) 1
  have hzz : 0 ≤ z1 ∧ z1 < 12 := x1.1
  refine pe_istore d_H_keepRemoval_4 ?_
  refine pe_aload_n d_H_keepRemoval_6 rfl ?_
  refine pe_getr f_H_9 d_H_keepRemoval_7 rfl rfl ?_
  refine pe_iload d_H_keepRemoval_10 rfl ?_
  refine pe_iload_n d_H_keepRemoval_12 rfl ?_
  refine pe_iastT d_H_keepRemoval_13 rfl (by omega) (by omega) hB (by first | exact hB _ _ | exact hB0 _ _ | exact hBt _ _ | exact ⟨by omega, by omega⟩) (fun σ13 hB e13 o13 f13 => ?_)
  try have u13_0 : σ13 5 5 = σ1 5 5 := by first | exact o13 5 (by decide) | exact congrFun (f13 5 (by decide)) 5
  try have u13_1 : σ13 5 6 = σ1 5 6 := by first | exact o13 6 (by decide) | exact congrFun (f13 5 (by decide)) 6
  try have u13_2 : σ13 3 1 = σ1 3 1 := by first | exact o13 1 (by decide) | exact congrFun (f13 3 (by decide)) 1
  refine pe_aload_n d_H_keepRemoval_14 rfl ?_
  refine pe_getr f_H_15 d_H_keepRemoval_15 rfl rfl ?_
  refine pe_iload d_H_keepRemoval_18 rfl ?_
  refine pe_iload_n d_H_keepRemoval_20 rfl ?_
  refine pe_iastT d_H_keepRemoval_21 rfl (by omega) (by omega) hB (by first | exact hB _ _ | exact hB0 _ _ | exact hBt _ _ | exact ⟨by omega, by omega⟩) (fun σ21 hB e21 o21 f21 => ?_)
  try have u21_0 : σ21 5 5 = σ13 5 5 := by first | exact o21 5 (by decide) | exact congrFun (f21 5 (by decide)) 5
  try have u21_1 : σ21 5 6 = σ13 5 6 := by first | exact o21 6 (by decide) | exact congrFun (f21 5 (by decide)) 6
  try have u21_2 : σ21 3 1 = σ13 3 1 := by first | exact o21 1 (by decide) | exact congrFun (f21 3 (by decide)) 1
  refine pe_aload_n d_H_keepRemoval_22 rfl ?_
  refine pe_getr f_H_18 d_H_keepRemoval_23 rfl rfl ?_
  refine pe_iload d_H_keepRemoval_26 rfl ?_
  refine pe_iload d_H_keepRemoval_28 rfl ?_
  refine pe_iastT d_H_keepRemoval_30 rfl (by omega) (by omega) hB (by first | exact hB _ _ | exact hB0 _ _ | exact hBt _ _ | exact ⟨by omega, by omega⟩) (fun σ30 hB e30 o30 f30 => ?_)
  try have u30_0 : σ30 5 5 = σ21 5 5 := by first | exact o30 5 (by decide) | exact congrFun (f30 5 (by decide)) 5
  try have u30_1 : σ30 5 6 = σ21 5 6 := by first | exact o30 6 (by decide) | exact congrFun (f30 5 (by decide)) 6
  try have u30_2 : σ30 3 1 = σ21 3 1 := by first | exact o30 1 (by decide) | exact congrFun (f30 3 (by decide)) 1
  refine pe_aload_n d_H_keepRemoval_31 rfl ?_
  refine pe_getr f_H_21 d_H_keepRemoval_32 rfl rfl ?_
  refine pe_iload d_H_keepRemoval_35 rfl ?_
  refine pe_iconst d_H_keepRemoval_37 ?_
  refine pe_zastT d_H_keepRemoval_38 rfl (by omega) (by omega) (by first | exact Or.inl rfl | exact Or.inr rfl | omega) hB (fun σ38 hB e38 o38 f38 => ?_)
  try have u38_0 : σ38 5 5 = σ30 5 5 := by first | exact o38 5 (by decide) | exact congrFun (f38 5 (by decide)) 5
  try have u38_1 : σ38 5 6 = σ30 5 6 := by first | exact o38 6 (by decide) | exact congrFun (f38 5 (by decide)) 6
  try have u38_2 : σ38 3 1 = σ30 3 1 := by first | exact o38 1 (by decide) | exact congrFun (f38 3 (by decide)) 1
  refine pe_aload_n d_H_keepRemoval_39 rfl ?_
  refine pe_aload_n d_H_keepRemoval_40 rfl ?_
  refine pe_getr f_H_25 d_H_keepRemoval_41 rfl rfl ?_
  refine pe_iload d_H_keepRemoval_44 rfl ?_
  refine pe_sipush d_H_keepRemoval_46 ?_
  refine pe_imul d_H_keepRemoval_49 ?_
  refine pe_iload_n d_H_keepRemoval_50 rfl ?_
  refine pe_iload_n d_H_keepRemoval_51 rfl ?_
  refine pe_v4v d_H_keepRemoval_52 c_H_32 i_T_copyTo s_T_copyTo rfl rfl (t_T_copyTo_10 hB (by omega) (by omega) (by omega)) (fun σ52 hz52 => ?_)
  obtain ⟨hB, f52⟩ := hz52
  try have u52_0 : σ52 5 5 = σ38 5 5 := by first | exact o52 5 (by decide) | exact congrFun (f52 5 (by decide)) 5
  try have u52_1 : σ52 5 6 = σ38 5 6 := by first | exact o52 6 (by decide) | exact congrFun (f52 5 (by decide)) 6
  try have u52_2 : σ52 3 1 = σ38 3 1 := by first | exact o52 1 (by decide) | exact congrFun (f52 3 (by decide)) 1
  refine pe_rv d_H_keepRemoval_55 ?_
  obtain ⟨hz1, hz2, hz3, n0, T0, hc0, hn0, hs0, hk0, hT0⟩ := x1
  have q6 : σ52 6 = σ13 6 := (f52 6 (by decide)).trans ((f38 6 (by decide)).trans ((f30 6 (by decide)).trans ((f21 6 (by decide)).trans (rfl))))
  have p6 : σ1 6 = σ 6 := (f1 6 (by decide)).trans (rfl)
  have q7 : σ52 7 = σ21 7 := (f52 7 (by decide)).trans ((f38 7 (by decide)).trans ((f30 7 (by decide)).trans (rfl)))
  have p7 : σ13 7 = σ 7 := (f13 7 (by decide)).trans ((f1 7 (by decide)).trans (rfl))
  have q8 : σ52 8 = σ30 8 := (f52 8 (by decide)).trans ((f38 8 (by decide)).trans (rfl))
  have p8 : σ21 8 = σ 8 := (f21 8 (by decide)).trans ((f13 8 (by decide)).trans ((f1 8 (by decide)).trans (rfl)))
  have q9 : σ52 9 = σ38 9 := (f52 9 (by decide)).trans (rfl)
  have p9 : σ30 9 = σ 9 := (f30 9 (by decide)).trans ((f21 9 (by decide)).trans ((f13 9 (by decide)).trans ((f1 9 (by decide)).trans (rfl))))
  have q5 : σ52 5 = σ1 5 := (f52 5 (by decide)).trans ((f38 5 (by decide)).trans ((f30 5 (by decide)).trans ((f21 5 (by decide)).trans ((f13 5 (by decide)).trans (rfl)))))
  have q3 : σ52 3 = σ 3 := (f52 3 (by decide)).trans ((f38 3 (by decide)).trans ((f30 3 (by decide)).trans ((f21 3 (by decide)).trans ((f13 3 (by decide)).trans ((f1 3 (by decide)).trans (rfl))))))
  refine ⟨hB, (fun b hb => (f52 b (by simp at hb ⊢; try omega)).trans ((f38 b (by simp at hb ⊢; try omega)).trans ((f30 b (by simp at hb ⊢; try omega)).trans ((f21 b (by simp at hb ⊢; try omega)).trans ((f13 b (by simp at hb ⊢; try omega)).trans ((f1 b (by simp at hb ⊢; try omega)).trans (rfl))))))), ⟨by rw [q5]; omega, by rw [q5]; omega, ?_⟩⟩
  show pe_ch (σ52 6) (σ52 7) (σ52 8) (σ52 9) (σ52 5 6).toNat (σ52 5 5 + σ52 5 6 - 1) (σ 3 1 - c)
  rw [q5, hk0, q6, q7, q8, q9]
  refine pe_ch_mod _ _ _ _ hT0.symm ?_
  refine pe_ch_push hc0 hn0 hs0 (fun j hj => ⟨?_, ?_, ?_, ?_⟩) ?_ ?_ ?_
  · rw [o13 j hj, p6]
  · rw [o21 j hj, p7]
  · rw [o30 j hj, p8]
  · rw [o38 j hj, p9]
  · omega
  · rw [e13, e21, e30]; omega
  · rw [e13, e21, e30, e38]; omega
theorem t_H_undoIn {σ : pe_H} (hB : pe_B σ) (hh : pe_HI (σ 5) (σ 6) (σ 7) (σ 8) (σ 9) (σ 3)) : pe_M m_H_undoIn [pe_r 5, pe_r 3] σ (pe_qi (fun z σ' => pe_B σ' ∧ (∀ b, b ∉ [3, 4, 5] → σ' b = σ b) ∧ pe_HI (σ' 5) (σ' 6) (σ' 7) (σ' 8) (σ' 9) (σ' 3) ∧ ((z = -1 ∧ σ' 3 1 = σ 3 1) ∨ (0 ≤ z ∧ z ≤ σ' 3 1)))) := by
  refine pe_in0 (lv := [some (pe_r 5), some (pe_r 3), none]) ?_
  have hB0 := hB
  have hh0 := hh
  obtain ⟨hh1, hh2, hch⟩ := hh
  have hlen := pe_ch_len hch
  refine pe_aload_n d_H_undoIn_0 rfl ?_
  refine pe_geti f_H_38 d_H_undoIn_1 rfl rfl 6 rfl ?_
  refine pe_if_ne (t := 9) d_H_undoIn_4 (by first | exact hB _ _ | exact hB0 _ _ | exact hBt _ _ | exact ⟨by omega, by omega⟩) (fun h4 => ?_) (fun h4 => ?_)
  · skip
    have hc1 : pe_ch (σ 6) (σ 7) (σ 8) (σ 9) ((σ 5 6 - 1).toNat + 1) (σ 5 5 + σ 5 6 - 1) (σ 3 1) := by have q := hch; rw [show (σ 5 6).toNat = (σ 5 6 - 1).toNat + 1 by omega] at q; exact q
    obtain ⟨hl1, hl2, hl3⟩ := hc1
    refine pe_aload_n d_H_undoIn_9 rfl ?_
    refine pe_dup d_H_undoIn_10 ?_
    refine pe_geti f_H_38 d_H_undoIn_11 rfl rfl 6 rfl ?_
    refine pe_iconst d_H_undoIn_14 ?_
    refine pe_isub d_H_undoIn_15 ?_
    refine pe_putiT f_H_38 g_4_6 d_H_undoIn_16 rfl rfl 6 rfl hB (by first | exact hB _ _ | exact hB0 _ _ | exact hBt _ _ | exact ⟨by omega, by omega⟩) (fun σ16 hB e16 o16 f16 => ?_)
    try have u16_0 : σ16 5 5 = σ 5 5 := by first | exact o16 5 (by decide) | exact congrFun (f16 5 (by decide)) 5
    try have u16_1 : σ16 5 6 = σ 5 6 := by first | exact o16 6 (by decide) | exact congrFun (f16 5 (by decide)) 6
    try have u16_2 : σ16 3 1 = σ 3 1 := by first | exact o16 1 (by decide) | exact congrFun (f16 3 (by decide)) 1
    refine pe_aload_n d_H_undoIn_19 rfl ?_
    refine pe_geti f_H_42 d_H_undoIn_20 rfl rfl 5 rfl ?_
    refine pe_aload_n d_H_undoIn_23 rfl ?_
    refine pe_geti f_H_38 d_H_undoIn_24 rfl rfl 6 rfl ?_
    refine pe_iadd d_H_undoIn_27 ?_
    refine pe_bipush d_H_undoIn_28 ?_
    refine pe_iremN d_H_undoIn_30 (by omega) (by omega) ?_
    refine pe_istore_n d_H_undoIn_31 ?_
    have es : (σ16 5 5 + σ16 5 6) % 12 = (σ 5 5 + σ 5 6 - 1) % 12 := by omega
    have a6 : σ16 6 ((σ16 5 5 + σ16 5 6) % 12) = σ 6 ((σ 5 5 + σ 5 6 - 1) % 12) := by rw [es, f16 6 (by decide)]
    have a7 : σ16 7 ((σ16 5 5 + σ16 5 6) % 12) = σ 7 ((σ 5 5 + σ 5 6 - 1) % 12) := by rw [es, f16 7 (by decide)]
    have a8 : σ16 8 ((σ16 5 5 + σ16 5 6) % 12) = σ 8 ((σ 5 5 + σ 5 6 - 1) % 12) := by rw [es, f16 8 (by decide)]
    have a9 : σ16 9 ((σ16 5 5 + σ16 5 6) % 12) = σ 9 ((σ 5 5 + σ 5 6 - 1) % 12) := by rw [es, f16 9 (by decide)]
    refine pe_aload_n d_H_undoIn_32 rfl ?_
    refine pe_getr f_H_21 d_H_undoIn_33 rfl rfl ?_
    refine pe_iload_n d_H_undoIn_36 rfl ?_
    refine pe_zald d_H_undoIn_37 rfl (by omega) (by omega) ?_
    refine pe_if_eq (t := 69) d_H_undoIn_38 (by first | exact hB _ _ | exact hB0 _ _ | exact hBt _ _ | exact ⟨by omega, by omega⟩) (fun h38 => ?_) (fun h38 => ?_)
    · skip
      have hl4 := hl3.resolve_right (fun q => q.1 (by rw [← a9]; exact h38))
      have hl5 := pe_ch_len hl4.2.2.2
      refine pe_aload_n d_H_undoIn_69 rfl ?_
      refine pe_aload_n d_H_undoIn_70 rfl ?_
      refine pe_getr f_H_9 d_H_undoIn_71 rfl rfl ?_
      refine pe_iload_n d_H_undoIn_74 rfl ?_
      refine pe_iald d_H_undoIn_75 rfl (by omega) (by omega) ?_
      refine pe_aload_n d_H_undoIn_76 rfl ?_
      refine pe_getr f_H_15 d_H_undoIn_77 rfl rfl ?_
      refine pe_iload_n d_H_undoIn_80 rfl ?_
      refine pe_iald d_H_undoIn_81 rfl (by omega) (by omega) ?_
      refine pe_v2v d_H_undoIn_82 c_H_49 i_T_remove s_T_remove rfl rfl (t_T_remove hB (by omega) (by omega)) (fun σ82 hz82 => ?_)
      obtain ⟨hB, f82, x82⟩ := hz82
      try have u82_0 : σ82 5 5 = σ16 5 5 := by first | exact o82 5 (by decide) | exact congrFun (f82 5 (by decide)) 5
      try have u82_1 : σ82 5 6 = σ16 5 6 := by first | exact o82 6 (by decide) | exact congrFun (f82 5 (by decide)) 6
      try have u82_2 : σ82 3 1 = σ16 3 1 := by first | exact o82 1 (by decide) | exact congrFun (f82 3 (by decide)) 1
      have hx := x82
      refine pe_aload_n d_H_undoIn_85 rfl ?_
      refine pe_getr f_H_18 d_H_undoIn_86 rfl rfl ?_
      refine pe_iload_n d_H_undoIn_89 rfl ?_
      refine pe_iald d_H_undoIn_90 rfl (by omega) (by omega) ?_
      refine pe_ri d_H_undoIn_91 ?_
      have FRR : ∀ b, b ∉ [3, 4, 5] → σ82 b = σ b := (fun b hb => (f82 b (by simp at hb ⊢; try omega)).trans ((f16 b (by simp at hb ⊢; try omega)).trans (rfl)))
      have k6 : σ82 6 = σ 6 := FRR 6 (by decide)
      have k7 : σ82 7 = σ 7 := FRR 7 (by decide)
      have k8 : σ82 8 = σ 8 := FRR 8 (by decide)
      have k9 : σ82 9 = σ 9 := FRR 9 (by decide)
      have k5 : σ82 5 = σ16 5 := by first | exact f63 5 (by decide) | exact f82 5 (by decide)
      have k8' : σ82 8 ((σ16 5 5 + σ16 5 6) % 12) = σ 8 ((σ 5 5 + σ 5 6 - 1) % 12) := by rw [k8, es]
      refine ⟨hB, FRR, ⟨by rw [k5]; omega, by rw [k5]; omega, ?_⟩, by omega⟩
      rw [k5, k6, k7, k8, k9, show (σ16 5 6).toNat = (σ 5 6 - 1).toNat by omega, show σ16 5 5 + σ16 5 6 - 1 = σ 5 5 + σ 5 6 - 1 - 1 by omega]
      first | (rw [show σ82 3 1 = σ 3 1 + σ 7 ((σ 5 5 + σ 5 6 - 1) % 12) by omega]; exact hl4.2.2.2) | (rw [show σ82 3 1 = σ 3 1 - σ 7 ((σ 5 5 + σ 5 6 - 1) % 12) by omega]; exact hl4.2.2.2)
    · skip
      have hl4 := hl3.resolve_left (fun q => h38 (by rw [a9]; exact q.1))
      have hl5 := pe_ch_len hl4.2.2.2
      refine pe_aload_n d_H_undoIn_41 rfl ?_
      refine pe_aload_n d_H_undoIn_42 rfl ?_
      refine pe_getr f_H_9 d_H_undoIn_43 rfl rfl ?_
      refine pe_iload_n d_H_undoIn_46 rfl ?_
      refine pe_iald d_H_undoIn_47 rfl (by omega) (by omega) ?_
      refine pe_aload_n d_H_undoIn_48 rfl ?_
      refine pe_getr f_H_25 d_H_undoIn_49 rfl rfl ?_
      refine pe_iload_n d_H_undoIn_52 rfl ?_
      refine pe_sipush d_H_undoIn_53 ?_
      refine pe_imul d_H_undoIn_56 ?_
      refine pe_aload_n d_H_undoIn_57 rfl ?_
      refine pe_getr f_H_15 d_H_undoIn_58 rfl rfl ?_
      refine pe_iload_n d_H_undoIn_61 rfl ?_
      refine pe_iald d_H_undoIn_62 rfl (by omega) (by omega) ?_
      refine pe_v4v d_H_undoIn_63 c_H_45 i_T_insert s_T_insert rfl rfl (t_T_insert_10 hB (by omega) (by omega) (by omega)) (fun σ63 hz63 => ?_)
      obtain ⟨hB, f63, x63⟩ := hz63
      try have u63_0 : σ63 5 5 = σ16 5 5 := by first | exact o63 5 (by decide) | exact congrFun (f63 5 (by decide)) 5
      try have u63_1 : σ63 5 6 = σ16 5 6 := by first | exact o63 6 (by decide) | exact congrFun (f63 5 (by decide)) 6
      try have u63_2 : σ63 3 1 = σ16 3 1 := by first | exact o63 1 (by decide) | exact congrFun (f63 3 (by decide)) 1
      have hx := x63
      refine pe_goto (t := 85) d_H_undoIn_66 ?_
      refine pe_aload_n d_H_undoIn_85 rfl ?_
      refine pe_getr f_H_18 d_H_undoIn_86 rfl rfl ?_
      refine pe_iload_n d_H_undoIn_89 rfl ?_
      refine pe_iald d_H_undoIn_90 rfl (by omega) (by omega) ?_
      refine pe_ri d_H_undoIn_91 ?_
      have FRR : ∀ b, b ∉ [3, 4, 5] → σ63 b = σ b := (fun b hb => (f63 b (by simp at hb ⊢; try omega)).trans ((f16 b (by simp at hb ⊢; try omega)).trans (rfl)))
      have k6 : σ63 6 = σ 6 := FRR 6 (by decide)
      have k7 : σ63 7 = σ 7 := FRR 7 (by decide)
      have k8 : σ63 8 = σ 8 := FRR 8 (by decide)
      have k9 : σ63 9 = σ 9 := FRR 9 (by decide)
      have k5 : σ63 5 = σ16 5 := by first | exact f63 5 (by decide) | exact f82 5 (by decide)
      have k8' : σ63 8 ((σ16 5 5 + σ16 5 6) % 12) = σ 8 ((σ 5 5 + σ 5 6 - 1) % 12) := by rw [k8, es]
      refine ⟨hB, FRR, ⟨by rw [k5]; omega, by rw [k5]; omega, ?_⟩, by omega⟩
      rw [k5, k6, k7, k8, k9, show (σ16 5 6).toNat = (σ 5 6 - 1).toNat by omega, show σ16 5 5 + σ16 5 6 - 1 = σ 5 5 + σ 5 6 - 1 - 1 by omega]
      first | (rw [show σ63 3 1 = σ 3 1 + σ 7 ((σ 5 5 + σ 5 6 - 1) % 12) by omega]; exact hl4.2.2.2) | (rw [show σ63 3 1 = σ 3 1 - σ 7 ((σ 5 5 + σ 5 6 - 1) % 12) by omega]; exact hl4.2.2.2)
  · skip
    refine pe_iconst d_H_undoIn_7 ?_
    refine pe_ri d_H_undoIn_8 ?_
    exact ⟨hB, (fun b hb => rfl), hh0, Or.inl ⟨rfl, rfl⟩⟩
