/-! p1: the rows in which the model lies, and the class's layout -/
def pe_cd (t : Int → Int) (n p : Int) : Int := if p < n then t p else -1
def pe_wo (d : Int) : Int := if (11904 ≤ d ∧ d ≤ 55203) ∨ (65281 ≤ d ∧ d ≤ 65376) then 2 else 1
def pe_at (c : Int) (s : Int × Int) (d : Int) : Int × Int := if c < s.2 + pe_wo d then (s.1 + 1, 0) else s
def pe_nx (c : Int) (s : Int × Int) (d : Int) : Int × Int := if d = 10 then ((pe_at c s d).1 + 1, 0) else ((pe_at c s d).1, if d = 9 then (if c ≤ (pe_at c s d).2 - (pe_at c s d).2 % 4 + 4 then c else (pe_at c s d).2 - (pe_at c s d).2 % 4 + 4) else (pe_at c s d).2 + pe_wo d)
noncomputable def pe_ly (t : Int → Int) (n c : Int) : Nat → Int × Int
  | 0 => (0, 0)
  | p + 1 => @ite (Int × Int) (pe_bg t n p) (Classical.propDecidable _) (pe_nx c (pe_ly t n c p) (pe_cd t n p)) (pe_ly t n c p)
noncomputable def pe_rw (t : Int → Int) (n c p : Int) : Int × Int := pe_at c (pe_ly t n c p.toNat) (pe_cd t n p)
theorem pe_ly_s {t : Int → Int} {n c p : Int} (hp : 0 ≤ p) (h : pe_bg t n p) : pe_ly t n c (p + 1).toNat = pe_nx c (pe_ly t n c p.toNat) (pe_cd t n p) := by
  rw [show (p + 1).toNat = p.toNat + 1 by omega]
  show @ite (Int × Int) (pe_bg t n p.toNat) (Classical.propDecidable _) (pe_nx c (pe_ly t n c p.toNat) (pe_cd t n p.toNat)) (pe_ly t n c p.toNat) = _
  rw [show ((p.toNat : Nat) : Int) = p by omega, if_pos h]
theorem pe_ly_n {t : Int → Int} {n c p : Int} (hp : 0 ≤ p) (h : ¬ pe_bg t n p) : pe_ly t n c (p + 1).toNat = pe_ly t n c p.toNat := by
  rw [show (p + 1).toNat = p.toNat + 1 by omega]
  show @ite (Int × Int) (pe_bg t n p.toNat) (Classical.propDecidable _) (pe_nx c (pe_ly t n c p.toNat) (pe_cd t n p.toNat)) (pe_ly t n c p.toNat) = _
  rw [show ((p.toNat : Nat) : Int) = p by omega, if_neg h]
theorem pe_cd_of {t t' : Int → Int} {n p z : Int} (ag : ∀ j, 0 ≤ j → j < n → t' j = t j) (hp : 0 ≤ p) (hz : z = if 0 ≤ p ∧ p < n then t' p else -1) : z = pe_cd t n p := by
  unfold pe_cd
  by_cases h : p < n
  · rw [if_pos h, hz, if_pos ⟨hp, h⟩]; exact ag p hp h
  · rw [if_neg h, hz, if_neg (fun q => h q.2)]
theorem pe_at_of {c r k d W r1 k1 : Int} (hW : (W = 1 ∨ W = 2) ∧ (W = 2 ↔ (11904 ≤ d ∧ d ≤ 55203) ∨ (65281 ≤ d ∧ d ≤ 65376))) (h1 : (c < k + W ∧ r1 = r + 1 ∧ k1 = 0) ∨ (k + W ≤ c ∧ r1 = r ∧ k1 = k)) : pe_at c (r, k) d = (r1, k1) := by
  have e : pe_wo d = W := by unfold pe_wo; split <;> omega
  unfold pe_at
  rw [e]
  rcases h1 with ⟨a, b, w⟩ | ⟨a, b, w⟩
  · rw [if_pos a, b, w]
  · rw [if_neg (by omega), b, w]
theorem pe_nx_of {c r k d W r1 k1 r2 k2 : Int} (hW : (W = 1 ∨ W = 2) ∧ (W = 2 ↔ (11904 ≤ d ∧ d ≤ 55203) ∨ (65281 ≤ d ∧ d ≤ 65376))) (h1 : (c < k + W ∧ r1 = r + 1 ∧ k1 = 0) ∨ (k + W ≤ c ∧ r1 = r ∧ k1 = k)) (h2 : (d = 10 ∧ r2 = r1 + 1 ∧ k2 = 0) ∨ (d ≠ 10 ∧ r2 = r1 ∧ ((d = 9 ∧ (k2 = c ∨ k2 = k1 - k1 % 4 + 4) ∧ k2 ≤ c ∧ k2 ≤ k1 - k1 % 4 + 4) ∨ (d ≠ 9 ∧ k2 = k1 + W)))) : pe_nx c (r, k) d = (r2, k2) := by
  have e : pe_wo d = W := by unfold pe_wo; split <;> omega
  unfold pe_nx
  rw [pe_at_of hW h1, e]
  dsimp only
  by_cases a : d = 10
  · rw [if_pos a]; exact Prod.ext (by dsimp only; omega) (by dsimp only; omega)
  · rw [if_neg a]
    refine Prod.ext (by dsimp only; omega) ?_
    dsimp only
    by_cases b : d = 9
    · rw [if_pos b]; split <;> omega
    · rw [if_neg b]; omega
theorem pe_at_1 (c : Int) (s : Int × Int) (d : Int) : s.1 ≤ (pe_at c s d).1 ∧ (pe_at c s d).1 ≤ s.1 + 1 := by
  unfold pe_at
  split
  · dsimp only; omega
  · omega
theorem pe_nx_1 (c : Int) (s : Int × Int) (d : Int) : (pe_at c s d).1 ≤ (pe_nx c s d).1 ∧ (pe_nx c s d).1 ≤ (pe_at c s d).1 + 1 ∧ ((pe_nx c s d).1 = (pe_at c s d).1 + 1 → (pe_nx c s d).2 = 0) := by
  unfold pe_nx
  split <;> (dsimp only; omega)
theorem pe_ly_nn (t : Int → Int) (n c : Int) : ∀ p : Nat, 0 ≤ (pe_ly t n c p).1
  | 0 => Int.le_refl _
  | p + 1 => by
    have ih := pe_ly_nn t n c p
    unfold pe_ly
    split
    · have a := pe_at_1 c (pe_ly t n c p) (pe_cd t n p)
      have b := pe_nx_1 c (pe_ly t n c p) (pe_cd t n p)
      omega
    · exact ih
theorem pe_rw_nn (t : Int → Int) (n c p : Int) : 0 ≤ (pe_rw t n c p).1 := by
  have a := pe_at_1 c (pe_ly t n c p.toNat) (pe_cd t n p)
  have b := pe_ly_nn t n c p.toNat
  unfold pe_rw
  omega
def pe_LX (t : Int → Int) (n c : Int) (R C : Int → Int) (p : Int) : Prop := ∀ j, 0 ≤ j → j < p → (pe_bg t n j → R j = (pe_rw t n c j).1 ∧ C j = (pe_rw t n c j).2) ∧ (¬ pe_bg t n j → R j = -1)
theorem pe_LX_s {t : Int → Int} {n c p : Int} {R C R' C' : Int → Int} (h : pe_LX t n c R C p) (oR : ∀ j, j ≠ p → R' j = R j) (oC : ∀ j, j ≠ p → C' j = C j) (hp : (pe_bg t n p → R' p = (pe_rw t n c p).1 ∧ C' p = (pe_rw t n c p).2) ∧ (¬ pe_bg t n p → R' p = -1)) : pe_LX t n c R' C' (p + 1) := by
  intro j h0 h1
  by_cases q : j = p
  · rw [q]; exact hp
  · rw [oR j q, oC j q]; exact h j h0 (by omega)
noncomputable def pe_fd (t : Int → Int) (n c row g : Int) : Nat → Int
  | 0 => -1
  | p + 1 => @ite Int (pe_bg t n p ∧ (pe_rw t n c p).1 = row ∧ (pe_fd t n c row g p = -1 ∨ (pe_rw t n c p).2 ≤ g)) (Classical.propDecidable _) p (pe_fd t n c row g p)
theorem pe_fd_y {t : Int → Int} {n c row g p : Int} (hp : 0 ≤ p) (h : pe_bg t n p ∧ (pe_rw t n c p).1 = row ∧ (pe_fd t n c row g p.toNat = -1 ∨ (pe_rw t n c p).2 ≤ g)) : pe_fd t n c row g (p + 1).toNat = p := by
  rw [show (p + 1).toNat = p.toNat + 1 by omega]
  show @ite Int (pe_bg t n p.toNat ∧ (pe_rw t n c p.toNat).1 = row ∧ (pe_fd t n c row g p.toNat = -1 ∨ (pe_rw t n c p.toNat).2 ≤ g)) (Classical.propDecidable _) p.toNat (pe_fd t n c row g p.toNat) = _
  rw [show ((p.toNat : Nat) : Int) = p by omega, if_pos h]
theorem pe_fd_n {t : Int → Int} {n c row g p : Int} (hp : 0 ≤ p) (h : ¬ (pe_bg t n p ∧ (pe_rw t n c p).1 = row ∧ (pe_fd t n c row g p.toNat = -1 ∨ (pe_rw t n c p).2 ≤ g))) : pe_fd t n c row g (p + 1).toNat = pe_fd t n c row g p.toNat := by
  rw [show (p + 1).toNat = p.toNat + 1 by omega]
  show @ite Int (pe_bg t n p.toNat ∧ (pe_rw t n c p.toNat).1 = row ∧ (pe_fd t n c row g p.toNat = -1 ∨ (pe_rw t n c p.toNat).2 ≤ g)) (Classical.propDecidable _) p.toNat (pe_fd t n c row g p.toNat) = _
  rw [show ((p.toNat : Nat) : Int) = p by omega, if_neg h]
noncomputable def pe_gl (m : pe_H) : Int := if m 4 0 = -1 then (pe_rw (m 8) (m 0 0) (m 7 0) (m 1 0)).2 else m 4 0
noncomputable def pe_mf (m : pe_H) (b : Int) : Int := pe_fd (m 8) (m 0 0) (m 7 0) ((pe_rw (m 8) (m 0 0) (m 7 0) (m 1 0)).1 + b) (pe_gl m) (m 0 0 + 1).toNat
noncomputable def pe_eMv (m : pe_H) (b : Int) : pe_H := if m 7 0 < 4 then m else pe_eS (pe_eS m 4 (pe_gl m)) 1 (if pe_mf m b = -1 then m 1 0 else pe_mf m b)
theorem pe_ca_2 {m m' σ σ' : pe_H} (hA : pe_ca m σ) (f : ∀ b, b ∈ [3, 4, 5, 6, 7, 8, 9, 10, 15] → σ' b = σ b) (e : (m' 0 = m 0 ∧ m' 3 = m 3 ∧ m' 5 = m 5 ∧ m' 7 = m 7) ∧ m' 8 = m 8 ∧ m' 9 = m 9 ∧ m' 10 = m 10 ∧ m' 11 = m 11 ∧ m' 12 = m 12 ∧ m' 13 = m 13 ∧ m' 14 = m 14) (h : σ' 2 7 = m' 1 0 ∧ σ' 2 8 = m' 2 0 ∧ σ' 2 5 = m 3 0 ∧ σ' 2 9 = m' 4 0 ∧ σ' 2 10 = m' 6 0 ∧ σ' 2 6 = m 7 0) : pe_ca m' σ' := by
  obtain ⟨⟨⟨a1, a2, a3, a4, a5⟩, a6, a8, a9⟩, A2, A3, A4⟩ := hA
  unfold pe_ca
  rw [e.1.1, e.1.2.1, e.1.2.2.1, e.1.2.2.2, e.2.1, e.2.2.1, e.2.2.2.1, e.2.2.2.2.1, e.2.2.2.2.2.1, e.2.2.2.2.2.2.1, e.2.2.2.2.2.2.2]
  rw [f 3 (by decide), f 4 (by decide), f 5 (by decide), f 6 (by decide), f 7 (by decide), f 8 (by decide), f 9 (by decide), f 10 (by decide), f 15 (by decide)]
  exact ⟨⟨⟨a1, h.1, h.2.1, h.2.2.1, h.2.2.2.1⟩, a6, h.2.2.2.2.1, h.2.2.2.2.2⟩, A2, A3, A4⟩
set_option maxHeartbeats 2000000 in
theorem x_L_lay {σ : pe_H} {c : Int} {t : Int → Int} (hB : pe_B σ) (hl : 0 ≤ σ 3 1 ∧ σ 3 1 ≤ 200) (hv : ∀ j, 0 ≤ j → j < σ 3 1 → σ 4 j = 9 ∨ σ 4 j = 10 ∨ (32 ≤ σ 4 j ∧ σ 4 j ≤ 65535)) (ag : ∀ j, 0 ≤ j → j < σ 3 1 → σ 4 j = t j) (hc : 4 ≤ c ∧ c ≤ 24) : pe_M m_L_lay [pe_r 11, pe_r 3, pe_i c] σ (pe_qv (fun σ' => pe_B σ' ∧ (∀ b, b ∉ [12, 13, 14] → σ' b = σ b) ∧ pe_LX t (σ 3 1) c (σ' 12) (σ' 13) (σ 3 1 + 1))) := by
  refine pe_in0 (lv := [some (pe_r 11), some (pe_r 3), some (pe_i c), none, none, none, none, none]) ?_
  have hB0 := hB
  have J8 : ∀ x : Int × Int × Int × pe_H, (pe_B x.2.2.2 ∧ (∀ b, b ∉ [12, 13, 14] → x.2.2.2 b = σ b) ∧ (0 ≤ x.2.2.1 ∧ x.2.2.1 ≤ σ 3 1 + 1) ∧ pe_ly t (σ 3 1) c x.2.2.1.toNat = (x.1, x.2.1) ∧ ((0 ≤ x.2.1 ∧ x.2.1 ≤ c) ∧ 0 ≤ x.1 ∧ x.1 ≤ 2 * x.2.2.1) ∧ pe_LX t (σ 3 1) c (x.2.2.2 12) (x.2.2.2 13) x.2.2.1) → pe_G m_L_lay 8 [some (pe_r 11), some (pe_r 3), some (pe_i c), some (pe_i x.1), some (pe_i x.2.1), some (pe_i x.2.2.1), none, none] [] x.2.2.2 (pe_qv (fun σ' => pe_B σ' ∧ (∀ b, b ∉ [12, 13, 14] → σ' b = σ b) ∧ pe_LX t (σ 3 1) c (σ' 12) (σ' 13) (σ 3 1 + 1))) := by
    refine pe_loop (fun x : Int × Int × Int × pe_H => (300 - x.2.2.1).toNat) _ _ ?_
    intro x hI ih
    obtain ⟨r, k, p, τ⟩ := x
    dsimp only at hI ⊢
    obtain ⟨hB, hfr, hX⟩ := hI
    have v_3_1 : τ 3 1 = σ 3 1 := congrFun (hfr 3 (by decide)) 1
    obtain ⟨hp, hly, hk, hLX⟩ := hX
    have hBt := hB
    refine pe_iload d_L_lay_8 rfl ?_
    refine pe_aload_n d_L_lay_10 rfl ?_
    refine pe_geti f_L_21 d_L_lay_11 rfl rfl 1 rfl ?_
    refine pe_icmp_gt (t := 144) d_L_lay_14 (by first | exact hB _ _ | exact hB0 _ _ | exact hBt _ _ | exact ⟨by omega, by omega⟩) (by first | exact hB _ _ | exact hB0 _ _ | exact hBt _ _ | exact ⟨by omega, by omega⟩) (fun h14 => ?_) (fun h14 => ?_)
    · skip
      refine pe_rv d_L_lay_144 ?_
      have e : p = σ 3 1 + 1 := by omega
      exact ⟨hB, (fun b hb => hfr b (by simp at hb ⊢; try omega)), by rw [← e]; exact hLX⟩
    · skip
      refine pe_aload_n d_L_lay_17 rfl ?_
      refine pe_getr f_L_9 d_L_lay_18 rfl rfl ?_
      refine pe_iload d_L_lay_21 rfl ?_
      refine pe_iconst d_L_lay_23 ?_
      refine pe_iastT d_L_lay_24 rfl (by omega) (by omega) hB (by first | exact hB _ _ | exact hB0 _ _ | exact hBt _ _ | exact ⟨by omega, by omega⟩) (fun σ24 hB e24 o24 f24 => ?_)
      try have u24_0 : σ24 3 1 = τ 3 1 := by first | exact o24 1 (by decide) | exact congrFun (f24 3 (by decide)) 1
      refine pe_aload_n d_L_lay_25 rfl ?_
      refine pe_iload d_L_lay_26 rfl ?_
      refine pe_v1p d_L_lay_28 c_L_27 i_T_isBeginning s_T_isBeginning rfl rfl (x_T_isBeginning hB (by omega) (by omega) (by rw [f24 3 (by decide), f24 4 (by decide), hfr 3 (by decide), hfr 4 (by decide)]; exact hv)) (fun z28 hz28 => ?_)
      rw [f24 3 (by decide), f24 4 (by decide), hfr 3 (by decide), hfr 4 (by decide), pe_bg_eq ag hp.1] at hz28
      refine pe_if_ne (t := 37) d_L_lay_31 (by first | exact hB _ _ | exact hB0 _ _ | exact hBt _ _ | exact ⟨by omega, by omega⟩) (fun h31 => ?_) (fun h31 => ?_)
      · skip
        refine pe_aload_n d_L_lay_37 rfl ?_
        refine pe_iload d_L_lay_38 rfl ?_
        refine pe_v1p d_L_lay_40 c_L_31 i_T_codeAt s_T_codeAt rfl rfl (t_T_codeAt hB (by first | exact hB _ _ | exact hB0 _ _ | exact hBt _ _ | exact ⟨by omega, by omega⟩) (by omega)) (fun z40 hz40 => ?_)
        have hR40 : pe_R z40 := by rw [hz40]; split <;> first | exact hB _ _ | exact ⟨by omega, by omega⟩
        rw [f24 3 (by decide), f24 4 (by decide), hfr 3 (by decide), hfr 4 (by decide)] at hz40
        have hcd := pe_cd_of ag hp.1 hz40
        have hbg := hz28.2.mp (by omega)
        refine pe_istore d_L_lay_43 ?_
        refine pe_iload d_L_lay_45 rfl ?_
        refine pe_s1p d_L_lay_47 c_L_35 z_C_widthOf (t_C_widthOf (by first | exact hB _ _ | exact hB0 _ _ | exact hBt _ _ | exact ⟨by omega, by omega⟩)) (fun z47 hz47 => ?_)
        refine pe_istore d_L_lay_50 ?_
        refine pe_iload d_L_lay_52 rfl ?_
        refine pe_iload d_L_lay_54 rfl ?_
        refine pe_iadd d_L_lay_56 ?_
        refine pe_iload_n d_L_lay_57 rfl ?_
        refine pe_icmp_le (t := 67) d_L_lay_58 (by first | exact hB _ _ | exact hB0 _ _ | exact hBt _ _ | exact ⟨by omega, by omega⟩) (by first | exact hB _ _ | exact hB0 _ _ | exact hBt _ _ | exact ⟨by omega, by omega⟩) (fun h58 => ?_) (fun h58 => ?_)
        · skip
          refine pe_iload d_L_lay_67 rfl ?_
          refine pe_bipush d_L_lay_69 ?_
          refine pe_icmp_ne (t := 92) d_L_lay_71 (by first | exact hB _ _ | exact hB0 _ _ | exact hBt _ _ | exact ⟨by omega, by omega⟩) (by first | exact hB _ _ | exact hB0 _ _ | exact hBt _ _ | exact ⟨by omega, by omega⟩) (fun h71 => ?_) (fun h71 => ?_)
          · skip
            refine pe_aload_n d_L_lay_92 rfl ?_
            refine pe_getr f_L_9 d_L_lay_93 rfl rfl ?_
            refine pe_iload d_L_lay_96 rfl ?_
            refine pe_iload_n d_L_lay_98 rfl ?_
            refine pe_iastT d_L_lay_99 rfl (by omega) (by omega) hB (by first | exact hB _ _ | exact hB0 _ _ | exact hBt _ _ | exact ⟨by omega, by omega⟩) (fun σ99 hB e99 o99 f99 => ?_)
            try have u99_0 : σ99 3 1 = σ24 3 1 := by first | exact o99 1 (by decide) | exact congrFun (f99 3 (by decide)) 1
            refine pe_aload_n d_L_lay_100 rfl ?_
            refine pe_getr f_L_15 d_L_lay_101 rfl rfl ?_
            refine pe_iload d_L_lay_104 rfl ?_
            refine pe_iload d_L_lay_106 rfl ?_
            refine pe_iastT d_L_lay_108 rfl (by omega) (by omega) hB (by first | exact hB _ _ | exact hB0 _ _ | exact hBt _ _ | exact ⟨by omega, by omega⟩) (fun σ108 hB e108 o108 f108 => ?_)
            try have u108_0 : σ108 3 1 = σ99 3 1 := by first | exact o108 1 (by decide) | exact congrFun (f108 3 (by decide)) 1
            refine pe_aload_n d_L_lay_109 rfl ?_
            refine pe_getr f_L_18 d_L_lay_110 rfl rfl ?_
            refine pe_iload d_L_lay_113 rfl ?_
            refine pe_iload d_L_lay_115 rfl ?_
            refine pe_iastT d_L_lay_117 rfl (by omega) (by omega) hB (by first | exact hB _ _ | exact hB0 _ _ | exact hBt _ _ | exact ⟨by omega, by omega⟩) (fun σ117 hB e117 o117 f117 => ?_)
            try have u117_0 : σ117 3 1 = σ108 3 1 := by first | exact o117 1 (by decide) | exact congrFun (f117 3 (by decide)) 1
            refine pe_iload d_L_lay_118 rfl ?_
            refine pe_iload d_L_lay_120 rfl ?_
            refine pe_iadd d_L_lay_122 ?_
            refine pe_istore d_L_lay_123 ?_
            refine pe_iload d_L_lay_125 rfl ?_
            refine pe_bipush d_L_lay_127 ?_
            refine pe_icmp_ne (t := 138) d_L_lay_129 (by first | exact hB _ _ | exact hB0 _ _ | exact hBt _ _ | exact ⟨by omega, by omega⟩) (by first | exact hB _ _ | exact hB0 _ _ | exact hBt _ _ | exact ⟨by omega, by omega⟩) (fun h129 => ?_) (fun h129 => ?_)
            · skip
              refine pe_iinc d_L_lay_138 rfl ?_
              refine pe_goto (t := 8) d_L_lay_141 ?_
              first
              | exact pe_drop 6 (pe_drop 7 (ih (_, _, _, _) ⟨hB, (fun b hb => (f117 b (by simp at hb ⊢; try omega)).trans ((f108 b (by simp at hb ⊢; try omega)).trans ((f99 b (by simp at hb ⊢; try omega)).trans ((f24 b (by simp at hb ⊢; try omega)).trans (hfr b (by simp at hb ⊢; try omega)))))), by (try dsimp only); omega, by (try dsimp only); rw [pe_ly_s hp.1 hbg, hly]; exact pe_nx_of (r1 := σ99 12 p) (k1 := σ108 13 p) (W := z47) (by rw [← hcd]; exact hz47) (by omega) (by omega), by (try dsimp only); omega, pe_LX_s hLX (fun j hj => (congrFun (f117 12 (by decide)) j).trans ((congrFun (f108 12 (by decide)) j).trans ((o99 j hj).trans (o24 j hj)))) (fun j hj => (congrFun (f117 13 (by decide)) j).trans ((o108 j hj).trans ((congrFun (f99 13 (by decide)) j).trans (congrFun (f24 13 (by decide)) j)))) ⟨fun _ => by
                  unfold pe_rw; rw [hly, pe_at_of (r1 := σ99 12 p) (k1 := σ108 13 p) (W := z47) (by rw [← hcd]; exact hz47) (by omega)]
                  exact ⟨(congrFun (f117 12 (by decide)) p).trans (congrFun (f108 12 (by decide)) p), congrFun (f117 13 (by decide)) p⟩, fun q => absurd hbg q⟩⟩ (by (try dsimp only); omega)))
              | exact pe_drop 6 (pe_drop 7 (ih (_, _, _, _) ⟨hB, (fun b hb => (f117 b (by simp at hb ⊢; try omega)).trans ((f108 b (by simp at hb ⊢; try omega)).trans ((f99 b (by simp at hb ⊢; try omega)).trans ((f24 b (by simp at hb ⊢; try omega)).trans (hfr b (by simp at hb ⊢; try omega)))))), by (try dsimp only); omega, by (try dsimp only); rw [pe_ly_n hp.1 hbg, hly], by (try dsimp only); omega, pe_LX_s hLX (fun j hj => o24 j hj) (fun j hj => congrFun (f24 13 (by decide)) j) ⟨fun q => absurd q hbg, fun _ => e24⟩⟩ (by (try dsimp only); omega)))
            · skip
              refine pe_iinc d_L_lay_132 rfl ?_
              refine pe_iconst d_L_lay_135 ?_
              refine pe_istore d_L_lay_136 ?_
              refine pe_iinc d_L_lay_138 rfl ?_
              refine pe_goto (t := 8) d_L_lay_141 ?_
              first
              | exact pe_drop 6 (pe_drop 7 (ih (_, _, _, _) ⟨hB, (fun b hb => (f117 b (by simp at hb ⊢; try omega)).trans ((f108 b (by simp at hb ⊢; try omega)).trans ((f99 b (by simp at hb ⊢; try omega)).trans ((f24 b (by simp at hb ⊢; try omega)).trans (hfr b (by simp at hb ⊢; try omega)))))), by (try dsimp only); omega, by (try dsimp only); rw [pe_ly_s hp.1 hbg, hly]; exact pe_nx_of (r1 := σ99 12 p) (k1 := σ108 13 p) (W := z47) (by rw [← hcd]; exact hz47) (by omega) (by omega), by (try dsimp only); omega, pe_LX_s hLX (fun j hj => (congrFun (f117 12 (by decide)) j).trans ((congrFun (f108 12 (by decide)) j).trans ((o99 j hj).trans (o24 j hj)))) (fun j hj => (congrFun (f117 13 (by decide)) j).trans ((o108 j hj).trans ((congrFun (f99 13 (by decide)) j).trans (congrFun (f24 13 (by decide)) j)))) ⟨fun _ => by
                  unfold pe_rw; rw [hly, pe_at_of (r1 := σ99 12 p) (k1 := σ108 13 p) (W := z47) (by rw [← hcd]; exact hz47) (by omega)]
                  exact ⟨(congrFun (f117 12 (by decide)) p).trans (congrFun (f108 12 (by decide)) p), congrFun (f117 13 (by decide)) p⟩, fun q => absurd hbg q⟩⟩ (by (try dsimp only); omega)))
              | exact pe_drop 6 (pe_drop 7 (ih (_, _, _, _) ⟨hB, (fun b hb => (f117 b (by simp at hb ⊢; try omega)).trans ((f108 b (by simp at hb ⊢; try omega)).trans ((f99 b (by simp at hb ⊢; try omega)).trans ((f24 b (by simp at hb ⊢; try omega)).trans (hfr b (by simp at hb ⊢; try omega)))))), by (try dsimp only); omega, by (try dsimp only); rw [pe_ly_n hp.1 hbg, hly], by (try dsimp only); omega, pe_LX_s hLX (fun j hj => o24 j hj) (fun j hj => congrFun (f24 13 (by decide)) j) ⟨fun q => absurd q hbg, fun _ => e24⟩⟩ (by (try dsimp only); omega)))
          · skip
            refine pe_iload_n d_L_lay_74 rfl ?_
            refine pe_iload d_L_lay_75 rfl ?_
            refine pe_iload d_L_lay_77 rfl ?_
            refine pe_iconst d_L_lay_79 ?_
            refine pe_iremN d_L_lay_80 (by omega) (by omega) ?_
            refine pe_isub d_L_lay_81 ?_
            refine pe_iconst d_L_lay_82 ?_
            refine pe_iadd d_L_lay_83 ?_
            refine pe_minT c_L_39 d_L_lay_84 (by first | exact hB _ _ | exact hB0 _ _ | exact hBt _ _ | exact ⟨by omega, by omega⟩) (by first | exact hB _ _ | exact hB0 _ _ | exact hBt _ _ | exact ⟨by omega, by omega⟩) (fun z84 hz84 => ?_)
            refine pe_iload d_L_lay_87 rfl ?_
            refine pe_isub d_L_lay_89 ?_
            refine pe_istore d_L_lay_90 ?_
            refine pe_aload_n d_L_lay_92 rfl ?_
            refine pe_getr f_L_9 d_L_lay_93 rfl rfl ?_
            refine pe_iload d_L_lay_96 rfl ?_
            refine pe_iload_n d_L_lay_98 rfl ?_
            refine pe_iastT d_L_lay_99 rfl (by omega) (by omega) hB (by first | exact hB _ _ | exact hB0 _ _ | exact hBt _ _ | exact ⟨by omega, by omega⟩) (fun σ99 hB e99 o99 f99 => ?_)
            try have u99_0 : σ99 3 1 = σ24 3 1 := by first | exact o99 1 (by decide) | exact congrFun (f99 3 (by decide)) 1
            refine pe_aload_n d_L_lay_100 rfl ?_
            refine pe_getr f_L_15 d_L_lay_101 rfl rfl ?_
            refine pe_iload d_L_lay_104 rfl ?_
            refine pe_iload d_L_lay_106 rfl ?_
            refine pe_iastT d_L_lay_108 rfl (by omega) (by omega) hB (by first | exact hB _ _ | exact hB0 _ _ | exact hBt _ _ | exact ⟨by omega, by omega⟩) (fun σ108 hB e108 o108 f108 => ?_)
            try have u108_0 : σ108 3 1 = σ99 3 1 := by first | exact o108 1 (by decide) | exact congrFun (f108 3 (by decide)) 1
            refine pe_aload_n d_L_lay_109 rfl ?_
            refine pe_getr f_L_18 d_L_lay_110 rfl rfl ?_
            refine pe_iload d_L_lay_113 rfl ?_
            refine pe_iload d_L_lay_115 rfl ?_
            refine pe_iastT d_L_lay_117 rfl (by omega) (by omega) hB (by first | exact hB _ _ | exact hB0 _ _ | exact hBt _ _ | exact ⟨by omega, by omega⟩) (fun σ117 hB e117 o117 f117 => ?_)
            try have u117_0 : σ117 3 1 = σ108 3 1 := by first | exact o117 1 (by decide) | exact congrFun (f117 3 (by decide)) 1
            refine pe_iload d_L_lay_118 rfl ?_
            refine pe_iload d_L_lay_120 rfl ?_
            refine pe_iadd d_L_lay_122 ?_
            refine pe_istore d_L_lay_123 ?_
            refine pe_iload d_L_lay_125 rfl ?_
            refine pe_bipush d_L_lay_127 ?_
            refine pe_icmp_ne (t := 138) d_L_lay_129 (by first | exact hB _ _ | exact hB0 _ _ | exact hBt _ _ | exact ⟨by omega, by omega⟩) (by first | exact hB _ _ | exact hB0 _ _ | exact hBt _ _ | exact ⟨by omega, by omega⟩) (fun h129 => ?_) (fun h129 => ?_)
            · skip
              refine pe_iinc d_L_lay_138 rfl ?_
              refine pe_goto (t := 8) d_L_lay_141 ?_
              first
              | exact pe_drop 6 (pe_drop 7 (ih (_, _, _, _) ⟨hB, (fun b hb => (f117 b (by simp at hb ⊢; try omega)).trans ((f108 b (by simp at hb ⊢; try omega)).trans ((f99 b (by simp at hb ⊢; try omega)).trans ((f24 b (by simp at hb ⊢; try omega)).trans (hfr b (by simp at hb ⊢; try omega)))))), by (try dsimp only); omega, by (try dsimp only); rw [pe_ly_s hp.1 hbg, hly]; exact pe_nx_of (r1 := σ99 12 p) (k1 := σ108 13 p) (W := z47) (by rw [← hcd]; exact hz47) (by omega) (by omega), by (try dsimp only); omega, pe_LX_s hLX (fun j hj => (congrFun (f117 12 (by decide)) j).trans ((congrFun (f108 12 (by decide)) j).trans ((o99 j hj).trans (o24 j hj)))) (fun j hj => (congrFun (f117 13 (by decide)) j).trans ((o108 j hj).trans ((congrFun (f99 13 (by decide)) j).trans (congrFun (f24 13 (by decide)) j)))) ⟨fun _ => by
                  unfold pe_rw; rw [hly, pe_at_of (r1 := σ99 12 p) (k1 := σ108 13 p) (W := z47) (by rw [← hcd]; exact hz47) (by omega)]
                  exact ⟨(congrFun (f117 12 (by decide)) p).trans (congrFun (f108 12 (by decide)) p), congrFun (f117 13 (by decide)) p⟩, fun q => absurd hbg q⟩⟩ (by (try dsimp only); omega)))
              | exact pe_drop 6 (pe_drop 7 (ih (_, _, _, _) ⟨hB, (fun b hb => (f117 b (by simp at hb ⊢; try omega)).trans ((f108 b (by simp at hb ⊢; try omega)).trans ((f99 b (by simp at hb ⊢; try omega)).trans ((f24 b (by simp at hb ⊢; try omega)).trans (hfr b (by simp at hb ⊢; try omega)))))), by (try dsimp only); omega, by (try dsimp only); rw [pe_ly_n hp.1 hbg, hly], by (try dsimp only); omega, pe_LX_s hLX (fun j hj => o24 j hj) (fun j hj => congrFun (f24 13 (by decide)) j) ⟨fun q => absurd q hbg, fun _ => e24⟩⟩ (by (try dsimp only); omega)))
            · skip
              refine pe_iinc d_L_lay_132 rfl ?_
              refine pe_iconst d_L_lay_135 ?_
              refine pe_istore d_L_lay_136 ?_
              refine pe_iinc d_L_lay_138 rfl ?_
              refine pe_goto (t := 8) d_L_lay_141 ?_
              first
              | exact pe_drop 6 (pe_drop 7 (ih (_, _, _, _) ⟨hB, (fun b hb => (f117 b (by simp at hb ⊢; try omega)).trans ((f108 b (by simp at hb ⊢; try omega)).trans ((f99 b (by simp at hb ⊢; try omega)).trans ((f24 b (by simp at hb ⊢; try omega)).trans (hfr b (by simp at hb ⊢; try omega)))))), by (try dsimp only); omega, by (try dsimp only); rw [pe_ly_s hp.1 hbg, hly]; exact pe_nx_of (r1 := σ99 12 p) (k1 := σ108 13 p) (W := z47) (by rw [← hcd]; exact hz47) (by omega) (by omega), by (try dsimp only); omega, pe_LX_s hLX (fun j hj => (congrFun (f117 12 (by decide)) j).trans ((congrFun (f108 12 (by decide)) j).trans ((o99 j hj).trans (o24 j hj)))) (fun j hj => (congrFun (f117 13 (by decide)) j).trans ((o108 j hj).trans ((congrFun (f99 13 (by decide)) j).trans (congrFun (f24 13 (by decide)) j)))) ⟨fun _ => by
                  unfold pe_rw; rw [hly, pe_at_of (r1 := σ99 12 p) (k1 := σ108 13 p) (W := z47) (by rw [← hcd]; exact hz47) (by omega)]
                  exact ⟨(congrFun (f117 12 (by decide)) p).trans (congrFun (f108 12 (by decide)) p), congrFun (f117 13 (by decide)) p⟩, fun q => absurd hbg q⟩⟩ (by (try dsimp only); omega)))
              | exact pe_drop 6 (pe_drop 7 (ih (_, _, _, _) ⟨hB, (fun b hb => (f117 b (by simp at hb ⊢; try omega)).trans ((f108 b (by simp at hb ⊢; try omega)).trans ((f99 b (by simp at hb ⊢; try omega)).trans ((f24 b (by simp at hb ⊢; try omega)).trans (hfr b (by simp at hb ⊢; try omega)))))), by (try dsimp only); omega, by (try dsimp only); rw [pe_ly_n hp.1 hbg, hly], by (try dsimp only); omega, pe_LX_s hLX (fun j hj => o24 j hj) (fun j hj => congrFun (f24 13 (by decide)) j) ⟨fun q => absurd q hbg, fun _ => e24⟩⟩ (by (try dsimp only); omega)))
        · skip
          refine pe_iinc d_L_lay_61 rfl ?_
          refine pe_iconst d_L_lay_64 ?_
          refine pe_istore d_L_lay_65 ?_
          refine pe_iload d_L_lay_67 rfl ?_
          refine pe_bipush d_L_lay_69 ?_
          refine pe_icmp_ne (t := 92) d_L_lay_71 (by first | exact hB _ _ | exact hB0 _ _ | exact hBt _ _ | exact ⟨by omega, by omega⟩) (by first | exact hB _ _ | exact hB0 _ _ | exact hBt _ _ | exact ⟨by omega, by omega⟩) (fun h71 => ?_) (fun h71 => ?_)
          · skip
            refine pe_aload_n d_L_lay_92 rfl ?_
            refine pe_getr f_L_9 d_L_lay_93 rfl rfl ?_
            refine pe_iload d_L_lay_96 rfl ?_
            refine pe_iload_n d_L_lay_98 rfl ?_
            refine pe_iastT d_L_lay_99 rfl (by omega) (by omega) hB (by first | exact hB _ _ | exact hB0 _ _ | exact hBt _ _ | exact ⟨by omega, by omega⟩) (fun σ99 hB e99 o99 f99 => ?_)
            try have u99_0 : σ99 3 1 = σ24 3 1 := by first | exact o99 1 (by decide) | exact congrFun (f99 3 (by decide)) 1
            refine pe_aload_n d_L_lay_100 rfl ?_
            refine pe_getr f_L_15 d_L_lay_101 rfl rfl ?_
            refine pe_iload d_L_lay_104 rfl ?_
            refine pe_iload d_L_lay_106 rfl ?_
            refine pe_iastT d_L_lay_108 rfl (by omega) (by omega) hB (by first | exact hB _ _ | exact hB0 _ _ | exact hBt _ _ | exact ⟨by omega, by omega⟩) (fun σ108 hB e108 o108 f108 => ?_)
            try have u108_0 : σ108 3 1 = σ99 3 1 := by first | exact o108 1 (by decide) | exact congrFun (f108 3 (by decide)) 1
            refine pe_aload_n d_L_lay_109 rfl ?_
            refine pe_getr f_L_18 d_L_lay_110 rfl rfl ?_
            refine pe_iload d_L_lay_113 rfl ?_
            refine pe_iload d_L_lay_115 rfl ?_
            refine pe_iastT d_L_lay_117 rfl (by omega) (by omega) hB (by first | exact hB _ _ | exact hB0 _ _ | exact hBt _ _ | exact ⟨by omega, by omega⟩) (fun σ117 hB e117 o117 f117 => ?_)
            try have u117_0 : σ117 3 1 = σ108 3 1 := by first | exact o117 1 (by decide) | exact congrFun (f117 3 (by decide)) 1
            refine pe_iload d_L_lay_118 rfl ?_
            refine pe_iload d_L_lay_120 rfl ?_
            refine pe_iadd d_L_lay_122 ?_
            refine pe_istore d_L_lay_123 ?_
            refine pe_iload d_L_lay_125 rfl ?_
            refine pe_bipush d_L_lay_127 ?_
            refine pe_icmp_ne (t := 138) d_L_lay_129 (by first | exact hB _ _ | exact hB0 _ _ | exact hBt _ _ | exact ⟨by omega, by omega⟩) (by first | exact hB _ _ | exact hB0 _ _ | exact hBt _ _ | exact ⟨by omega, by omega⟩) (fun h129 => ?_) (fun h129 => ?_)
            · skip
              refine pe_iinc d_L_lay_138 rfl ?_
              refine pe_goto (t := 8) d_L_lay_141 ?_
              first
              | exact pe_drop 6 (pe_drop 7 (ih (_, _, _, _) ⟨hB, (fun b hb => (f117 b (by simp at hb ⊢; try omega)).trans ((f108 b (by simp at hb ⊢; try omega)).trans ((f99 b (by simp at hb ⊢; try omega)).trans ((f24 b (by simp at hb ⊢; try omega)).trans (hfr b (by simp at hb ⊢; try omega)))))), by (try dsimp only); omega, by (try dsimp only); rw [pe_ly_s hp.1 hbg, hly]; exact pe_nx_of (r1 := σ99 12 p) (k1 := σ108 13 p) (W := z47) (by rw [← hcd]; exact hz47) (by omega) (by omega), by (try dsimp only); omega, pe_LX_s hLX (fun j hj => (congrFun (f117 12 (by decide)) j).trans ((congrFun (f108 12 (by decide)) j).trans ((o99 j hj).trans (o24 j hj)))) (fun j hj => (congrFun (f117 13 (by decide)) j).trans ((o108 j hj).trans ((congrFun (f99 13 (by decide)) j).trans (congrFun (f24 13 (by decide)) j)))) ⟨fun _ => by
                  unfold pe_rw; rw [hly, pe_at_of (r1 := σ99 12 p) (k1 := σ108 13 p) (W := z47) (by rw [← hcd]; exact hz47) (by omega)]
                  exact ⟨(congrFun (f117 12 (by decide)) p).trans (congrFun (f108 12 (by decide)) p), congrFun (f117 13 (by decide)) p⟩, fun q => absurd hbg q⟩⟩ (by (try dsimp only); omega)))
              | exact pe_drop 6 (pe_drop 7 (ih (_, _, _, _) ⟨hB, (fun b hb => (f117 b (by simp at hb ⊢; try omega)).trans ((f108 b (by simp at hb ⊢; try omega)).trans ((f99 b (by simp at hb ⊢; try omega)).trans ((f24 b (by simp at hb ⊢; try omega)).trans (hfr b (by simp at hb ⊢; try omega)))))), by (try dsimp only); omega, by (try dsimp only); rw [pe_ly_n hp.1 hbg, hly], by (try dsimp only); omega, pe_LX_s hLX (fun j hj => o24 j hj) (fun j hj => congrFun (f24 13 (by decide)) j) ⟨fun q => absurd q hbg, fun _ => e24⟩⟩ (by (try dsimp only); omega)))
            · skip
              refine pe_iinc d_L_lay_132 rfl ?_
              refine pe_iconst d_L_lay_135 ?_
              refine pe_istore d_L_lay_136 ?_
              refine pe_iinc d_L_lay_138 rfl ?_
              refine pe_goto (t := 8) d_L_lay_141 ?_
              first
              | exact pe_drop 6 (pe_drop 7 (ih (_, _, _, _) ⟨hB, (fun b hb => (f117 b (by simp at hb ⊢; try omega)).trans ((f108 b (by simp at hb ⊢; try omega)).trans ((f99 b (by simp at hb ⊢; try omega)).trans ((f24 b (by simp at hb ⊢; try omega)).trans (hfr b (by simp at hb ⊢; try omega)))))), by (try dsimp only); omega, by (try dsimp only); rw [pe_ly_s hp.1 hbg, hly]; exact pe_nx_of (r1 := σ99 12 p) (k1 := σ108 13 p) (W := z47) (by rw [← hcd]; exact hz47) (by omega) (by omega), by (try dsimp only); omega, pe_LX_s hLX (fun j hj => (congrFun (f117 12 (by decide)) j).trans ((congrFun (f108 12 (by decide)) j).trans ((o99 j hj).trans (o24 j hj)))) (fun j hj => (congrFun (f117 13 (by decide)) j).trans ((o108 j hj).trans ((congrFun (f99 13 (by decide)) j).trans (congrFun (f24 13 (by decide)) j)))) ⟨fun _ => by
                  unfold pe_rw; rw [hly, pe_at_of (r1 := σ99 12 p) (k1 := σ108 13 p) (W := z47) (by rw [← hcd]; exact hz47) (by omega)]
                  exact ⟨(congrFun (f117 12 (by decide)) p).trans (congrFun (f108 12 (by decide)) p), congrFun (f117 13 (by decide)) p⟩, fun q => absurd hbg q⟩⟩ (by (try dsimp only); omega)))
              | exact pe_drop 6 (pe_drop 7 (ih (_, _, _, _) ⟨hB, (fun b hb => (f117 b (by simp at hb ⊢; try omega)).trans ((f108 b (by simp at hb ⊢; try omega)).trans ((f99 b (by simp at hb ⊢; try omega)).trans ((f24 b (by simp at hb ⊢; try omega)).trans (hfr b (by simp at hb ⊢; try omega)))))), by (try dsimp only); omega, by (try dsimp only); rw [pe_ly_n hp.1 hbg, hly], by (try dsimp only); omega, pe_LX_s hLX (fun j hj => o24 j hj) (fun j hj => congrFun (f24 13 (by decide)) j) ⟨fun q => absurd q hbg, fun _ => e24⟩⟩ (by (try dsimp only); omega)))
          · skip
            refine pe_iload_n d_L_lay_74 rfl ?_
            refine pe_iload d_L_lay_75 rfl ?_
            refine pe_iload d_L_lay_77 rfl ?_
            refine pe_iconst d_L_lay_79 ?_
            refine pe_iremN d_L_lay_80 (by omega) (by omega) ?_
            refine pe_isub d_L_lay_81 ?_
            refine pe_iconst d_L_lay_82 ?_
            refine pe_iadd d_L_lay_83 ?_
            refine pe_minT c_L_39 d_L_lay_84 (by first | exact hB _ _ | exact hB0 _ _ | exact hBt _ _ | exact ⟨by omega, by omega⟩) (by first | exact hB _ _ | exact hB0 _ _ | exact hBt _ _ | exact ⟨by omega, by omega⟩) (fun z84 hz84 => ?_)
            refine pe_iload d_L_lay_87 rfl ?_
            refine pe_isub d_L_lay_89 ?_
            refine pe_istore d_L_lay_90 ?_
            refine pe_aload_n d_L_lay_92 rfl ?_
            refine pe_getr f_L_9 d_L_lay_93 rfl rfl ?_
            refine pe_iload d_L_lay_96 rfl ?_
            refine pe_iload_n d_L_lay_98 rfl ?_
            refine pe_iastT d_L_lay_99 rfl (by omega) (by omega) hB (by first | exact hB _ _ | exact hB0 _ _ | exact hBt _ _ | exact ⟨by omega, by omega⟩) (fun σ99 hB e99 o99 f99 => ?_)
            try have u99_0 : σ99 3 1 = σ24 3 1 := by first | exact o99 1 (by decide) | exact congrFun (f99 3 (by decide)) 1
            refine pe_aload_n d_L_lay_100 rfl ?_
            refine pe_getr f_L_15 d_L_lay_101 rfl rfl ?_
            refine pe_iload d_L_lay_104 rfl ?_
            refine pe_iload d_L_lay_106 rfl ?_
            refine pe_iastT d_L_lay_108 rfl (by omega) (by omega) hB (by first | exact hB _ _ | exact hB0 _ _ | exact hBt _ _ | exact ⟨by omega, by omega⟩) (fun σ108 hB e108 o108 f108 => ?_)
            try have u108_0 : σ108 3 1 = σ99 3 1 := by first | exact o108 1 (by decide) | exact congrFun (f108 3 (by decide)) 1
            refine pe_aload_n d_L_lay_109 rfl ?_
            refine pe_getr f_L_18 d_L_lay_110 rfl rfl ?_
            refine pe_iload d_L_lay_113 rfl ?_
            refine pe_iload d_L_lay_115 rfl ?_
            refine pe_iastT d_L_lay_117 rfl (by omega) (by omega) hB (by first | exact hB _ _ | exact hB0 _ _ | exact hBt _ _ | exact ⟨by omega, by omega⟩) (fun σ117 hB e117 o117 f117 => ?_)
            try have u117_0 : σ117 3 1 = σ108 3 1 := by first | exact o117 1 (by decide) | exact congrFun (f117 3 (by decide)) 1
            refine pe_iload d_L_lay_118 rfl ?_
            refine pe_iload d_L_lay_120 rfl ?_
            refine pe_iadd d_L_lay_122 ?_
            refine pe_istore d_L_lay_123 ?_
            refine pe_iload d_L_lay_125 rfl ?_
            refine pe_bipush d_L_lay_127 ?_
            refine pe_icmp_ne (t := 138) d_L_lay_129 (by first | exact hB _ _ | exact hB0 _ _ | exact hBt _ _ | exact ⟨by omega, by omega⟩) (by first | exact hB _ _ | exact hB0 _ _ | exact hBt _ _ | exact ⟨by omega, by omega⟩) (fun h129 => ?_) (fun h129 => ?_)
            · skip
              refine pe_iinc d_L_lay_138 rfl ?_
              refine pe_goto (t := 8) d_L_lay_141 ?_
              first
              | exact pe_drop 6 (pe_drop 7 (ih (_, _, _, _) ⟨hB, (fun b hb => (f117 b (by simp at hb ⊢; try omega)).trans ((f108 b (by simp at hb ⊢; try omega)).trans ((f99 b (by simp at hb ⊢; try omega)).trans ((f24 b (by simp at hb ⊢; try omega)).trans (hfr b (by simp at hb ⊢; try omega)))))), by (try dsimp only); omega, by (try dsimp only); rw [pe_ly_s hp.1 hbg, hly]; exact pe_nx_of (r1 := σ99 12 p) (k1 := σ108 13 p) (W := z47) (by rw [← hcd]; exact hz47) (by omega) (by omega), by (try dsimp only); omega, pe_LX_s hLX (fun j hj => (congrFun (f117 12 (by decide)) j).trans ((congrFun (f108 12 (by decide)) j).trans ((o99 j hj).trans (o24 j hj)))) (fun j hj => (congrFun (f117 13 (by decide)) j).trans ((o108 j hj).trans ((congrFun (f99 13 (by decide)) j).trans (congrFun (f24 13 (by decide)) j)))) ⟨fun _ => by
                  unfold pe_rw; rw [hly, pe_at_of (r1 := σ99 12 p) (k1 := σ108 13 p) (W := z47) (by rw [← hcd]; exact hz47) (by omega)]
                  exact ⟨(congrFun (f117 12 (by decide)) p).trans (congrFun (f108 12 (by decide)) p), congrFun (f117 13 (by decide)) p⟩, fun q => absurd hbg q⟩⟩ (by (try dsimp only); omega)))
              | exact pe_drop 6 (pe_drop 7 (ih (_, _, _, _) ⟨hB, (fun b hb => (f117 b (by simp at hb ⊢; try omega)).trans ((f108 b (by simp at hb ⊢; try omega)).trans ((f99 b (by simp at hb ⊢; try omega)).trans ((f24 b (by simp at hb ⊢; try omega)).trans (hfr b (by simp at hb ⊢; try omega)))))), by (try dsimp only); omega, by (try dsimp only); rw [pe_ly_n hp.1 hbg, hly], by (try dsimp only); omega, pe_LX_s hLX (fun j hj => o24 j hj) (fun j hj => congrFun (f24 13 (by decide)) j) ⟨fun q => absurd q hbg, fun _ => e24⟩⟩ (by (try dsimp only); omega)))
            · skip
              refine pe_iinc d_L_lay_132 rfl ?_
              refine pe_iconst d_L_lay_135 ?_
              refine pe_istore d_L_lay_136 ?_
              refine pe_iinc d_L_lay_138 rfl ?_
              refine pe_goto (t := 8) d_L_lay_141 ?_
              first
              | exact pe_drop 6 (pe_drop 7 (ih (_, _, _, _) ⟨hB, (fun b hb => (f117 b (by simp at hb ⊢; try omega)).trans ((f108 b (by simp at hb ⊢; try omega)).trans ((f99 b (by simp at hb ⊢; try omega)).trans ((f24 b (by simp at hb ⊢; try omega)).trans (hfr b (by simp at hb ⊢; try omega)))))), by (try dsimp only); omega, by (try dsimp only); rw [pe_ly_s hp.1 hbg, hly]; exact pe_nx_of (r1 := σ99 12 p) (k1 := σ108 13 p) (W := z47) (by rw [← hcd]; exact hz47) (by omega) (by omega), by (try dsimp only); omega, pe_LX_s hLX (fun j hj => (congrFun (f117 12 (by decide)) j).trans ((congrFun (f108 12 (by decide)) j).trans ((o99 j hj).trans (o24 j hj)))) (fun j hj => (congrFun (f117 13 (by decide)) j).trans ((o108 j hj).trans ((congrFun (f99 13 (by decide)) j).trans (congrFun (f24 13 (by decide)) j)))) ⟨fun _ => by
                  unfold pe_rw; rw [hly, pe_at_of (r1 := σ99 12 p) (k1 := σ108 13 p) (W := z47) (by rw [← hcd]; exact hz47) (by omega)]
                  exact ⟨(congrFun (f117 12 (by decide)) p).trans (congrFun (f108 12 (by decide)) p), congrFun (f117 13 (by decide)) p⟩, fun q => absurd hbg q⟩⟩ (by (try dsimp only); omega)))
              | exact pe_drop 6 (pe_drop 7 (ih (_, _, _, _) ⟨hB, (fun b hb => (f117 b (by simp at hb ⊢; try omega)).trans ((f108 b (by simp at hb ⊢; try omega)).trans ((f99 b (by simp at hb ⊢; try omega)).trans ((f24 b (by simp at hb ⊢; try omega)).trans (hfr b (by simp at hb ⊢; try omega)))))), by (try dsimp only); omega, by (try dsimp only); rw [pe_ly_n hp.1 hbg, hly], by (try dsimp only); omega, pe_LX_s hLX (fun j hj => o24 j hj) (fun j hj => congrFun (f24 13 (by decide)) j) ⟨fun q => absurd q hbg, fun _ => e24⟩⟩ (by (try dsimp only); omega)))
      · skip
        have hbg : ¬ pe_bg t (σ 3 1) p := fun q => by have := hz28.2.mpr q; omega
        refine pe_goto (t := 138) d_L_lay_34 ?_
        refine pe_iinc d_L_lay_138 rfl ?_
        refine pe_goto (t := 8) d_L_lay_141 ?_
        first
        | exact pe_drop 6 (pe_drop 7 (ih (_, _, _, _) ⟨hB, (fun b hb => (f24 b (by simp at hb ⊢; try omega)).trans (hfr b (by simp at hb ⊢; try omega))), by (try dsimp only); omega, by (try dsimp only); rw [pe_ly_s hp.1 hbg, hly]; exact pe_nx_of (r1 := σ99 12 p) (k1 := σ108 13 p) (W := z47) (by rw [← hcd]; exact hz47) (by omega) (by omega), by (try dsimp only); omega, pe_LX_s hLX (fun j hj => (congrFun (f117 12 (by decide)) j).trans ((congrFun (f108 12 (by decide)) j).trans ((o99 j hj).trans (o24 j hj)))) (fun j hj => (congrFun (f117 13 (by decide)) j).trans ((o108 j hj).trans ((congrFun (f99 13 (by decide)) j).trans (congrFun (f24 13 (by decide)) j)))) ⟨fun _ => by
            unfold pe_rw; rw [hly, pe_at_of (r1 := σ99 12 p) (k1 := σ108 13 p) (W := z47) (by rw [← hcd]; exact hz47) (by omega)]
            exact ⟨(congrFun (f117 12 (by decide)) p).trans (congrFun (f108 12 (by decide)) p), congrFun (f117 13 (by decide)) p⟩, fun q => absurd hbg q⟩⟩ (by (try dsimp only); omega)))
        | exact pe_drop 6 (pe_drop 7 (ih (_, _, _, _) ⟨hB, (fun b hb => (f24 b (by simp at hb ⊢; try omega)).trans (hfr b (by simp at hb ⊢; try omega))), by (try dsimp only); omega, by (try dsimp only); rw [pe_ly_n hp.1 hbg, hly], by (try dsimp only); omega, pe_LX_s hLX (fun j hj => o24 j hj) (fun j hj => congrFun (f24 13 (by decide)) j) ⟨fun q => absurd q hbg, fun _ => e24⟩⟩ (by (try dsimp only); omega)))
  refine pe_iconst d_L_lay_0 ?_
  refine pe_istore_n d_L_lay_1 ?_
  refine pe_iconst d_L_lay_2 ?_
  refine pe_istore d_L_lay_3 ?_
  refine pe_iconst d_L_lay_5 ?_
  refine pe_istore d_L_lay_6 ?_
  exact J8 (_, _, _, _) ⟨hB, (fun b hb => rfl), by (try dsimp only); omega, rfl, by (try dsimp only); omega, fun j h0 h1 => absurd h1 (by (try dsimp only); omega)⟩
theorem x_L_placeIn {σ : pe_H} {r k n c : Int} {t : Int → Int} (hB : pe_B σ) (hn : σ 3 1 = n ∧ 0 ≤ n ∧ n ≤ 200) (hr : pe_R r) (hk : pe_R k) (hL : pe_LX t n c (σ 12) (σ 13) (n + 1)) : pe_M m_L_placeIn [pe_r 11, pe_r 3, pe_i r, pe_i k] σ (pe_qp σ (fun z => z = pe_fd t n c r k (n + 1).toNat ∧ -1 ≤ z ∧ z ≤ n)) := by
  refine pe_in0 (lv := [some (pe_r 11), some (pe_r 3), some (pe_i r), some (pe_i k), none, none]) ?_
  have hB0 := hB
  have J6 : ∀ x : Int × Int, ((0 ≤ x.2 ∧ x.2 ≤ n + 1) ∧ x.1 = pe_fd t n c r k x.2.toNat ∧ (-1 ≤ x.1 ∧ x.1 ≤ n)) → pe_G m_L_placeIn 6 [some (pe_r 11), some (pe_r 3), some (pe_i r), some (pe_i k), some (pe_i x.1), some (pe_i x.2)] [] σ (pe_qp σ (fun z => z = pe_fd t n c r k (n + 1).toNat ∧ -1 ≤ z ∧ z ≤ n)) := by
    refine pe_loop (fun x : Int × Int => (300 - x.2).toNat) _ _ ?_
    intro x hI ih
    obtain ⟨f, p⟩ := x
    dsimp only at hI ⊢
    obtain ⟨hp, hf, hf2⟩ := hI
    refine pe_iload d_L_placeIn_6 rfl ?_
    refine pe_aload_n d_L_placeIn_8 rfl ?_
    refine pe_geti f_L_21 d_L_placeIn_9 rfl rfl 1 rfl ?_
    refine pe_icmp_gt (t := 57) d_L_placeIn_12 (by first | exact hB _ _ | exact hB0 _ _ | exact hBt _ _ | exact ⟨by omega, by omega⟩) (by first | exact hB _ _ | exact hB0 _ _ | exact hBt _ _ | exact ⟨by omega, by omega⟩) (fun h12 => ?_) (fun h12 => ?_)
    · skip
      refine pe_iload d_L_placeIn_57 rfl ?_
      refine pe_ri d_L_placeIn_59 ?_
      have e : p = n + 1 := by omega
      exact ⟨rfl, by rw [← e]; exact hf, hf2⟩
    · skip
      refine pe_iload_n d_L_placeIn_15 rfl ?_
      refine pe_if_lt (t := 51) d_L_placeIn_16 (by first | exact hB _ _ | exact hB0 _ _ | exact hBt _ _ | exact ⟨by omega, by omega⟩) (fun h16 => ?_) (fun h16 => ?_)
      · skip
        refine pe_iinc d_L_placeIn_51 rfl ?_
        refine pe_goto (t := 6) d_L_placeIn_54 ?_
        obtain ⟨L1, L2⟩ := hL p hp.1 (by omega)
        have hnn := pe_rw_nn t n c p
        by_cases hbg : pe_bg t n p
        · have L3 := L1 hbg
          first
          | exact ih (_, _) ⟨by (try dsimp only); omega, by (try dsimp only); rw [pe_fd_y hp.1 ⟨hbg, by omega, by omega⟩], by (try dsimp only); omega⟩ (by (try dsimp only); omega)
          | exact ih (_, _) ⟨by (try dsimp only); omega, by (try dsimp only); rw [pe_fd_n hp.1 (fun ⟨_, q1, q2⟩ => by omega)]; exact hf, by (try dsimp only); omega⟩ (by (try dsimp only); omega)
        · have L3 := L2 hbg
          first
          | (exfalso; omega)
          | exact ih (_, _) ⟨by (try dsimp only); omega, by (try dsimp only); rw [pe_fd_n hp.1 (fun q => hbg q.1)]; exact hf, by (try dsimp only); omega⟩ (by (try dsimp only); omega)
      · skip
        refine pe_aload_n d_L_placeIn_19 rfl ?_
        refine pe_getr f_L_9 d_L_placeIn_20 rfl rfl ?_
        refine pe_iload d_L_placeIn_23 rfl ?_
        refine pe_iald d_L_placeIn_25 rfl (by omega) (by omega) ?_
        refine pe_iload_n d_L_placeIn_26 rfl ?_
        refine pe_icmp_ne (t := 51) d_L_placeIn_27 (by first | exact hB _ _ | exact hB0 _ _ | exact hBt _ _ | exact ⟨by omega, by omega⟩) (by first | exact hB _ _ | exact hB0 _ _ | exact hBt _ _ | exact ⟨by omega, by omega⟩) (fun h27 => ?_) (fun h27 => ?_)
        · skip
          refine pe_iinc d_L_placeIn_51 rfl ?_
          refine pe_goto (t := 6) d_L_placeIn_54 ?_
          obtain ⟨L1, L2⟩ := hL p hp.1 (by omega)
          have hnn := pe_rw_nn t n c p
          by_cases hbg : pe_bg t n p
          · have L3 := L1 hbg
            first
            | exact ih (_, _) ⟨by (try dsimp only); omega, by (try dsimp only); rw [pe_fd_y hp.1 ⟨hbg, by omega, by omega⟩], by (try dsimp only); omega⟩ (by (try dsimp only); omega)
            | exact ih (_, _) ⟨by (try dsimp only); omega, by (try dsimp only); rw [pe_fd_n hp.1 (fun ⟨_, q1, q2⟩ => by omega)]; exact hf, by (try dsimp only); omega⟩ (by (try dsimp only); omega)
          · have L3 := L2 hbg
            first
            | (exfalso; omega)
            | exact ih (_, _) ⟨by (try dsimp only); omega, by (try dsimp only); rw [pe_fd_n hp.1 (fun q => hbg q.1)]; exact hf, by (try dsimp only); omega⟩ (by (try dsimp only); omega)
        · skip
          refine pe_iload d_L_placeIn_30 rfl ?_
          refine pe_iconst d_L_placeIn_32 ?_
          refine pe_icmp_eq (t := 47) d_L_placeIn_33 (by first | exact hB _ _ | exact hB0 _ _ | exact hBt _ _ | exact ⟨by omega, by omega⟩) (by first | exact hB _ _ | exact hB0 _ _ | exact hBt _ _ | exact ⟨by omega, by omega⟩) (fun h33 => ?_) (fun h33 => ?_)
          · skip
            refine pe_iload d_L_placeIn_47 rfl ?_
            refine pe_istore d_L_placeIn_49 ?_
            refine pe_iinc d_L_placeIn_51 rfl ?_
            refine pe_goto (t := 6) d_L_placeIn_54 ?_
            obtain ⟨L1, L2⟩ := hL p hp.1 (by omega)
            have hnn := pe_rw_nn t n c p
            by_cases hbg : pe_bg t n p
            · have L3 := L1 hbg
              first
              | exact ih (_, _) ⟨by (try dsimp only); omega, by (try dsimp only); rw [pe_fd_y hp.1 ⟨hbg, by omega, by omega⟩], by (try dsimp only); omega⟩ (by (try dsimp only); omega)
              | exact ih (_, _) ⟨by (try dsimp only); omega, by (try dsimp only); rw [pe_fd_n hp.1 (fun ⟨_, q1, q2⟩ => by omega)]; exact hf, by (try dsimp only); omega⟩ (by (try dsimp only); omega)
            · have L3 := L2 hbg
              first
              | (exfalso; omega)
              | exact ih (_, _) ⟨by (try dsimp only); omega, by (try dsimp only); rw [pe_fd_n hp.1 (fun q => hbg q.1)]; exact hf, by (try dsimp only); omega⟩ (by (try dsimp only); omega)
          · skip
            refine pe_aload_n d_L_placeIn_36 rfl ?_
            refine pe_getr f_L_15 d_L_placeIn_37 rfl rfl ?_
            refine pe_iload d_L_placeIn_40 rfl ?_
            refine pe_iald d_L_placeIn_42 rfl (by omega) (by omega) ?_
            refine pe_iload_n d_L_placeIn_43 rfl ?_
            refine pe_icmp_gt (t := 51) d_L_placeIn_44 (by first | exact hB _ _ | exact hB0 _ _ | exact hBt _ _ | exact ⟨by omega, by omega⟩) (by first | exact hB _ _ | exact hB0 _ _ | exact hBt _ _ | exact ⟨by omega, by omega⟩) (fun h44 => ?_) (fun h44 => ?_)
            · skip
              refine pe_iinc d_L_placeIn_51 rfl ?_
              refine pe_goto (t := 6) d_L_placeIn_54 ?_
              obtain ⟨L1, L2⟩ := hL p hp.1 (by omega)
              have hnn := pe_rw_nn t n c p
              by_cases hbg : pe_bg t n p
              · have L3 := L1 hbg
                first
                | exact ih (_, _) ⟨by (try dsimp only); omega, by (try dsimp only); rw [pe_fd_y hp.1 ⟨hbg, by omega, by omega⟩], by (try dsimp only); omega⟩ (by (try dsimp only); omega)
                | exact ih (_, _) ⟨by (try dsimp only); omega, by (try dsimp only); rw [pe_fd_n hp.1 (fun ⟨_, q1, q2⟩ => by omega)]; exact hf, by (try dsimp only); omega⟩ (by (try dsimp only); omega)
              · have L3 := L2 hbg
                first
                | (exfalso; omega)
                | exact ih (_, _) ⟨by (try dsimp only); omega, by (try dsimp only); rw [pe_fd_n hp.1 (fun q => hbg q.1)]; exact hf, by (try dsimp only); omega⟩ (by (try dsimp only); omega)
            · skip
              refine pe_iload d_L_placeIn_47 rfl ?_
              refine pe_istore d_L_placeIn_49 ?_
              refine pe_iinc d_L_placeIn_51 rfl ?_
              refine pe_goto (t := 6) d_L_placeIn_54 ?_
              obtain ⟨L1, L2⟩ := hL p hp.1 (by omega)
              have hnn := pe_rw_nn t n c p
              by_cases hbg : pe_bg t n p
              · have L3 := L1 hbg
                first
                | exact ih (_, _) ⟨by (try dsimp only); omega, by (try dsimp only); rw [pe_fd_y hp.1 ⟨hbg, by omega, by omega⟩], by (try dsimp only); omega⟩ (by (try dsimp only); omega)
                | exact ih (_, _) ⟨by (try dsimp only); omega, by (try dsimp only); rw [pe_fd_n hp.1 (fun ⟨_, q1, q2⟩ => by omega)]; exact hf, by (try dsimp only); omega⟩ (by (try dsimp only); omega)
              · have L3 := L2 hbg
                first
                | (exfalso; omega)
                | exact ih (_, _) ⟨by (try dsimp only); omega, by (try dsimp only); rw [pe_fd_n hp.1 (fun q => hbg q.1)]; exact hf, by (try dsimp only); omega⟩ (by (try dsimp only); omega)
  refine pe_iconst d_L_placeIn_0 ?_
  refine pe_istore d_L_placeIn_1 ?_
  refine pe_iconst d_L_placeIn_3 ?_
  refine pe_istore d_L_placeIn_4 ?_
  exact J6 (_, _) ⟨by (try dsimp only); omega, rfl, by (try dsimp only); omega⟩
