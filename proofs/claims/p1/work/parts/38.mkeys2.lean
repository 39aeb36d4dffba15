theorem pe_and (k : Nat) (M : Int) {b m : Int} (h0 : 0 ≤ b) (h1 : b < 2147483648) (hm : (Int32.ofInt m).toBitVec.toNat = 2 ^ k - 1 := by decide) (hM : ((2 ^ k : Nat) : Int) = M := by decide) : Int32.ofInt b &&& Int32.ofInt m = Int32.ofInt (b % M) := by
  subst hM
  obtain ⟨n, rfl⟩ : ∃ n : Nat, b = n := ⟨b.toNat, by omega⟩
  have h := pk_andN (n := n) (by omega) (m := Int32.ofInt m) k hm
  have e1 : Int32.ofInt (n : Int) = nI n := Int32.ofInt_eq_ofNat
  have e2 : Int32.ofInt ((n : Int) % ((2 ^ k : Nat) : Int)) = nI (n % 2 ^ k) := by
    rw [← Int.natCast_emod]
    exact Int32.ofInt_eq_ofNat
  rw [e1, e2]
  exact h
theorem pe_shl6 {a : Int} (h0 : 0 ≤ a) (h1 : a < 30000000) : Int32.ofInt a <<< (Int32.ofInt 6 &&& 31) = Int32.ofInt (a * 64) := by
  obtain ⟨n, rfl⟩ : ∃ n : Nat, a = n := ⟨a.toNat, by omega⟩
  have h := pk_shlN (n := n) (Int32.ofInt 6 &&& 31) 6 (by decide) (by omega)
  have e1 : Int32.ofInt (n : Int) = nI n := Int32.ofInt_eq_ofNat
  have e2 : Int32.ofInt ((n : Int) * 64) = nI (n * 2 ^ 6) := by
    rw [show (n : Int) * 64 = ((n * 2 ^ 6 : Nat) : Int) by omega]
    exact Int32.ofInt_eq_ofNat
  rw [e1, e2]
  exact h
theorem pe_or6 {a r : Int} (h0 : 0 ≤ a) (h1 : a < 30000000) (h2 : 0 ≤ r) (h3 : r < 64) : Int32.ofInt (a * 64) ||| Int32.ofInt r = Int32.ofInt (a * 64 + r) := by
  obtain ⟨n, rfl⟩ : ∃ n : Nat, a = n := ⟨a.toNat, by omega⟩
  obtain ⟨m, rfl⟩ : ∃ m : Nat, r = m := ⟨r.toNat, by omega⟩
  have e1 : Int32.ofInt ((n : Int) * 64) = Int32.ofNat (n * 64) := by
    rw [show (n : Int) * 64 = ((n * 64 : Nat) : Int) by omega]
    exact Int32.ofInt_eq_ofNat
  have e2 : Int32.ofInt (m : Int) = Int32.ofNat m := Int32.ofInt_eq_ofNat
  have e3 : Int32.ofInt ((n : Int) * 64 + m) = Int32.ofNat (n * 64 + m) := by
    rw [show (n : Int) * 64 + m = ((n * 64 + m : Nat) : Int) by omega]
    exact Int32.ofInt_eq_ofNat
  rw [e1, e2, e3]
  have h := Nat.shiftLeft_add_eq_or_of_lt (i := 6) (b := m) (by omega) n
  rw [Nat.shiftLeft_eq] at h
  rw [show n * 64 + m = n * 2 ^ 6 + m by omega, h, ← Int32.toBitVec_inj, Int32.toBitVec_or]
  show BitVec.ofNat 32 (n * 64) ||| BitVec.ofNat 32 m = BitVec.ofNat 32 (n * 2 ^ 6 ||| m)
  rw [BitVec.ofNat_or]
theorem pe_byte (x : Int64) : 0 ≤ (x &&& 255).toInt ∧ (x &&& 255).toInt ≤ 255 := by
  have h : (x &&& 255).toBitVec.toNat ≤ 255 := by
    rw [Int64.toBitVec_and, BitVec.toNat_and]
    exact Nat.and_le_right
  have h2 : (x &&& 255).toInt = ((x &&& 255).toBitVec.toNat : Int) := by
    show (x &&& 255).toBitVec.toInt = _
    rw [BitVec.toInt_eq_toNat_of_lt (by omega)]
  omega
theorem t_M_plain {σ : pe_H} {k a : Int} (hB : pe_B σ) (hM : pe_MEs σ) (hK : pe_KI (σ 29)) (hk : 0 ≤ k ∧ k ≤ 255) (ha : pe_R a) : pe_M m_M_plain [pe_r 29, pe_i k, pe_i a] σ (pe_qv (fun σ' => pe_B σ' ∧ (∀ b, b ∉ [29, 30, 31, 32, 33, 34, 35, 36, 37, 38, 39] → σ' b = σ b) ∧ (∀ j, j ∉ ([1, 2, 3, 5, 6, 7, 13, 14, 15, 16, 17, 18, 19, 20, 26, 41] : List Int) → σ' 29 j = σ 29 j) ∧ (pe_MEs σ' ∧ pe_KI (σ' 29)))) := by
  refine pe_in0 (lv := [some (pe_r 29), some (pe_i k), some (pe_i a)]) ?_
  have hB0 := hB
  have hM0 := hM
  obtain ⟨hl, A30, A31, A36, ⟨hcu, hbg⟩, hma, hcl, hcg, hch, N30, N31, N36⟩ := hM
  have hK0 := hK
  obtain ⟨k1, k2, k3, k4, k5, k6, k7⟩ := hK
  refine pe_iload_n d_M_plain_0 rfl ?_
  refine pe_bipush d_M_plain_1 ?_
  refine pe_icmp_ne (t := 14) d_M_plain_3 (by first | exact hB _ _ | exact hB0 _ _ | exact hBt _ _ | exact ⟨by omega, by omega⟩) (by first | exact hB _ _ | exact hB0 _ _ | exact hBt _ _ | exact ⟨by omega, by omega⟩) (fun h3 => ?_) (fun h3 => ?_)
  · skip
    refine pe_iload_n d_M_plain_14 rfl ?_
    refine pe_bipush d_M_plain_15 ?_
    refine pe_icmp_lt (t := 34) d_M_plain_17 (by first | exact hB _ _ | exact hB0 _ _ | exact hBt _ _ | exact ⟨by omega, by omega⟩) (by first | exact hB _ _ | exact hB0 _ _ | exact hBt _ _ | exact ⟨by omega, by omega⟩) (fun h17 => ?_) (fun h17 => ?_)
    · skip
      refine pe_iload_n d_M_plain_34 rfl ?_
      refine pe_sipush d_M_plain_35 ?_
      refine pe_icmp_lt (t := 129) d_M_plain_38 (by first | exact hB _ _ | exact hB0 _ _ | exact hBt _ _ | exact ⟨by omega, by omega⟩) (by first | exact hB _ _ | exact hB0 _ _ | exact hBt _ _ | exact ⟨by omega, by omega⟩) (fun h38 => ?_) (fun h38 => ?_)
      · skip
        refine pe_iload_n d_M_plain_129 rfl ?_
        refine pe_sipush d_M_plain_130 ?_
        refine pe_icmp_lt (t := 145) d_M_plain_133 (by first | exact hB _ _ | exact hB0 _ _ | exact hBt _ _ | exact ⟨by omega, by omega⟩) (by first | exact hB _ _ | exact hB0 _ _ | exact hBt _ _ | exact ⟨by omega, by omega⟩) (fun h133 => ?_) (fun h133 => ?_)
        · skip
          refine pe_aload_n d_M_plain_145 rfl ?_
          refine pe_iload_n d_M_plain_146 rfl ?_
          refine pe_iload_n d_M_plain_147 rfl ?_
          refine pe_v2v d_M_plain_148 c_M_197 i_M_control s_M_control rfl rfl (t_M_control hB hM0 (by first | exact hB _ _ | exact hB0 _ _ | exact hBt _ _ | exact ⟨by omega, by omega⟩) (by first | exact hB _ _ | exact hB0 _ _ | exact hBt _ _ | exact ⟨by omega, by omega⟩)) (fun σ148 hz148 => ?_)
          obtain ⟨hB, f148, o148, x148⟩ := hz148
          try have u148_0 : σ148 29 1 = σ 29 1 := by first | exact o148 1 (by decide) | exact congrFun (f148 29 (by decide)) 1
          try have u148_1 : σ148 29 2 = σ 29 2 := by first | exact o148 2 (by decide) | exact congrFun (f148 29 (by decide)) 2
          try have u148_2 : σ148 29 3 = σ 29 3 := by first | exact o148 3 (by decide) | exact congrFun (f148 29 (by decide)) 3
          try have u148_3 : σ148 29 5 = σ 29 5 := by first | exact o148 5 (by decide) | exact congrFun (f148 29 (by decide)) 5
          try have u148_4 : σ148 29 7 = σ 29 7 := by first | exact o148 7 (by decide) | exact congrFun (f148 29 (by decide)) 7
          try have u148_5 : σ148 29 21 = σ 29 21 := by first | exact o148 21 (by decide) | exact congrFun (f148 29 (by decide)) 21
          try have u148_6 : σ148 29 26 = σ 29 26 := by first | exact o148 26 (by decide) | exact congrFun (f148 29 (by decide)) 26
          try have u148_7 : σ148 29 14 = σ 29 14 := by first | exact o148 14 (by decide) | exact congrFun (f148 29 (by decide)) 14
          try have u148_8 : σ148 29 15 = σ 29 15 := by first | exact o148 15 (by decide) | exact congrFun (f148 29 (by decide)) 15
          try have u148_9 : σ148 29 16 = σ 29 16 := by first | exact o148 16 (by decide) | exact congrFun (f148 29 (by decide)) 16
          try have u148_10 : σ148 29 17 = σ 29 17 := by first | exact o148 17 (by decide) | exact congrFun (f148 29 (by decide)) 17
          try have u148_11 : σ148 29 18 = σ 29 18 := by first | exact o148 18 (by decide) | exact congrFun (f148 29 (by decide)) 18
          have xx := x148
          refine pe_rv d_M_plain_151 ?_
          first | exact ⟨hB, (fun b hb => (f148 b (by simp at hb ⊢; try omega)).trans (rfl)), (fun j hj => (o148 j (by simp at hj ⊢; try omega)).trans (rfl)), xx, ⟨by omega, by omega, by omega, by omega, by omega, by omega, by omega⟩⟩ | exact ⟨hB, (fun b hb => (f148 b (by simp at hb ⊢; try omega)).trans (rfl)), (fun j hj => (o148 j (by simp at hj ⊢; try omega)).trans (rfl)), pe_ME_g hM0 (by omega) (by omega) (by omega) ⟨by omega, by rw [show σ148 29 2 = σ 29 2 by omega]; exact hbg⟩ (by omega) ((f148 30 (by decide)).trans (rfl)) ((f148 31 (by decide)).trans (rfl)) ((f148 36 (by decide)).trans (rfl)) ((f148 32 (by decide)).trans (rfl)) ((f148 33 (by decide)).trans (rfl)) ((f148 34 (by decide)).trans (rfl)) ((f148 35 (by decide)).trans (rfl)), ⟨by omega, by omega, by omega, by omega, by omega, by omega, by omega⟩⟩
        · skip
          refine pe_aload_n d_M_plain_136 rfl ?_
          refine pe_ldc q_M_196 d_M_plain_137 (z := 65533) rfl ?_
          refine pe_v1v d_M_plain_139 c_M_144 i_M_character s_M_character rfl rfl (t_M_character hB hM0 (by omega)) (fun σ139 hz139 => ?_)
          obtain ⟨hB, f139, o139, x139⟩ := hz139
          try have u139_0 : σ139 29 1 = σ 29 1 := by first | exact o139 1 (by decide) | exact congrFun (f139 29 (by decide)) 1
          try have u139_1 : σ139 29 2 = σ 29 2 := by first | exact o139 2 (by decide) | exact congrFun (f139 29 (by decide)) 2
          try have u139_2 : σ139 29 3 = σ 29 3 := by first | exact o139 3 (by decide) | exact congrFun (f139 29 (by decide)) 3
          try have u139_3 : σ139 29 5 = σ 29 5 := by first | exact o139 5 (by decide) | exact congrFun (f139 29 (by decide)) 5
          try have u139_4 : σ139 29 7 = σ 29 7 := by first | exact o139 7 (by decide) | exact congrFun (f139 29 (by decide)) 7
          try have u139_5 : σ139 29 21 = σ 29 21 := by first | exact o139 21 (by decide) | exact congrFun (f139 29 (by decide)) 21
          try have u139_6 : σ139 29 26 = σ 29 26 := by first | exact o139 26 (by decide) | exact congrFun (f139 29 (by decide)) 26
          try have u139_7 : σ139 29 14 = σ 29 14 := by first | exact o139 14 (by decide) | exact congrFun (f139 29 (by decide)) 14
          try have u139_8 : σ139 29 15 = σ 29 15 := by first | exact o139 15 (by decide) | exact congrFun (f139 29 (by decide)) 15
          try have u139_9 : σ139 29 16 = σ 29 16 := by first | exact o139 16 (by decide) | exact congrFun (f139 29 (by decide)) 16
          try have u139_10 : σ139 29 17 = σ 29 17 := by first | exact o139 17 (by decide) | exact congrFun (f139 29 (by decide)) 17
          try have u139_11 : σ139 29 18 = σ 29 18 := by first | exact o139 18 (by decide) | exact congrFun (f139 29 (by decide)) 18
          have xx := x139
          refine pe_goto (t := 151) d_M_plain_142 ?_
          refine pe_rv d_M_plain_151 ?_
          first | exact ⟨hB, (fun b hb => (f139 b (by simp at hb ⊢; try omega)).trans (rfl)), (fun j hj => (o139 j (by simp at hj ⊢; try omega)).trans (rfl)), xx, ⟨by omega, by omega, by omega, by omega, by omega, by omega, by omega⟩⟩ | exact ⟨hB, (fun b hb => (f139 b (by simp at hb ⊢; try omega)).trans (rfl)), (fun j hj => (o139 j (by simp at hj ⊢; try omega)).trans (rfl)), pe_ME_g hM0 (by omega) (by omega) (by omega) ⟨by omega, by rw [show σ139 29 2 = σ 29 2 by omega]; exact hbg⟩ (by omega) ((f139 30 (by decide)).trans (rfl)) ((f139 31 (by decide)).trans (rfl)) ((f139 36 (by decide)).trans (rfl)) ((f139 32 (by decide)).trans (rfl)) ((f139 33 (by decide)).trans (rfl)) ((f139 34 (by decide)).trans (rfl)) ((f139 35 (by decide)).trans (rfl)), ⟨by omega, by omega, by omega, by omega, by omega, by omega, by omega⟩⟩
      · skip
        refine pe_iload_n d_M_plain_41 rfl ?_
        refine pe_sipush d_M_plain_42 ?_
        refine pe_icmp_gt (t := 129) d_M_plain_45 (by first | exact hB _ _ | exact hB0 _ _ | exact hBt _ _ | exact ⟨by omega, by omega⟩) (by first | exact hB _ _ | exact hB0 _ _ | exact hBt _ _ | exact ⟨by omega, by omega⟩) (fun h45 => ?_) (fun h45 => ?_)
        · skip
          refine pe_iload_n d_M_plain_129 rfl ?_
          refine pe_sipush d_M_plain_130 ?_
          refine pe_icmp_lt (t := 145) d_M_plain_133 (by first | exact hB _ _ | exact hB0 _ _ | exact hBt _ _ | exact ⟨by omega, by omega⟩) (by first | exact hB _ _ | exact hB0 _ _ | exact hBt _ _ | exact ⟨by omega, by omega⟩) (fun h133 => ?_) (fun h133 => ?_)
          · skip
            refine pe_aload_n d_M_plain_145 rfl ?_
            refine pe_iload_n d_M_plain_146 rfl ?_
            refine pe_iload_n d_M_plain_147 rfl ?_
            refine pe_v2v d_M_plain_148 c_M_197 i_M_control s_M_control rfl rfl (t_M_control hB hM0 (by first | exact hB _ _ | exact hB0 _ _ | exact hBt _ _ | exact ⟨by omega, by omega⟩) (by first | exact hB _ _ | exact hB0 _ _ | exact hBt _ _ | exact ⟨by omega, by omega⟩)) (fun σ148 hz148 => ?_)
            obtain ⟨hB, f148, o148, x148⟩ := hz148
            try have u148_0 : σ148 29 1 = σ 29 1 := by first | exact o148 1 (by decide) | exact congrFun (f148 29 (by decide)) 1
            try have u148_1 : σ148 29 2 = σ 29 2 := by first | exact o148 2 (by decide) | exact congrFun (f148 29 (by decide)) 2
            try have u148_2 : σ148 29 3 = σ 29 3 := by first | exact o148 3 (by decide) | exact congrFun (f148 29 (by decide)) 3
            try have u148_3 : σ148 29 5 = σ 29 5 := by first | exact o148 5 (by decide) | exact congrFun (f148 29 (by decide)) 5
            try have u148_4 : σ148 29 7 = σ 29 7 := by first | exact o148 7 (by decide) | exact congrFun (f148 29 (by decide)) 7
            try have u148_5 : σ148 29 21 = σ 29 21 := by first | exact o148 21 (by decide) | exact congrFun (f148 29 (by decide)) 21
            try have u148_6 : σ148 29 26 = σ 29 26 := by first | exact o148 26 (by decide) | exact congrFun (f148 29 (by decide)) 26
            try have u148_7 : σ148 29 14 = σ 29 14 := by first | exact o148 14 (by decide) | exact congrFun (f148 29 (by decide)) 14
            try have u148_8 : σ148 29 15 = σ 29 15 := by first | exact o148 15 (by decide) | exact congrFun (f148 29 (by decide)) 15
            try have u148_9 : σ148 29 16 = σ 29 16 := by first | exact o148 16 (by decide) | exact congrFun (f148 29 (by decide)) 16
            try have u148_10 : σ148 29 17 = σ 29 17 := by first | exact o148 17 (by decide) | exact congrFun (f148 29 (by decide)) 17
            try have u148_11 : σ148 29 18 = σ 29 18 := by first | exact o148 18 (by decide) | exact congrFun (f148 29 (by decide)) 18
            have xx := x148
            refine pe_rv d_M_plain_151 ?_
            first | exact ⟨hB, (fun b hb => (f148 b (by simp at hb ⊢; try omega)).trans (rfl)), (fun j hj => (o148 j (by simp at hj ⊢; try omega)).trans (rfl)), xx, ⟨by omega, by omega, by omega, by omega, by omega, by omega, by omega⟩⟩ | exact ⟨hB, (fun b hb => (f148 b (by simp at hb ⊢; try omega)).trans (rfl)), (fun j hj => (o148 j (by simp at hj ⊢; try omega)).trans (rfl)), pe_ME_g hM0 (by omega) (by omega) (by omega) ⟨by omega, by rw [show σ148 29 2 = σ 29 2 by omega]; exact hbg⟩ (by omega) ((f148 30 (by decide)).trans (rfl)) ((f148 31 (by decide)).trans (rfl)) ((f148 36 (by decide)).trans (rfl)) ((f148 32 (by decide)).trans (rfl)) ((f148 33 (by decide)).trans (rfl)) ((f148 34 (by decide)).trans (rfl)) ((f148 35 (by decide)).trans (rfl)), ⟨by omega, by omega, by omega, by omega, by omega, by omega, by omega⟩⟩
          · skip
            refine pe_aload_n d_M_plain_136 rfl ?_
            refine pe_ldc q_M_196 d_M_plain_137 (z := 65533) rfl ?_
            refine pe_v1v d_M_plain_139 c_M_144 i_M_character s_M_character rfl rfl (t_M_character hB hM0 (by omega)) (fun σ139 hz139 => ?_)
            obtain ⟨hB, f139, o139, x139⟩ := hz139
            try have u139_0 : σ139 29 1 = σ 29 1 := by first | exact o139 1 (by decide) | exact congrFun (f139 29 (by decide)) 1
            try have u139_1 : σ139 29 2 = σ 29 2 := by first | exact o139 2 (by decide) | exact congrFun (f139 29 (by decide)) 2
            try have u139_2 : σ139 29 3 = σ 29 3 := by first | exact o139 3 (by decide) | exact congrFun (f139 29 (by decide)) 3
            try have u139_3 : σ139 29 5 = σ 29 5 := by first | exact o139 5 (by decide) | exact congrFun (f139 29 (by decide)) 5
            try have u139_4 : σ139 29 7 = σ 29 7 := by first | exact o139 7 (by decide) | exact congrFun (f139 29 (by decide)) 7
            try have u139_5 : σ139 29 21 = σ 29 21 := by first | exact o139 21 (by decide) | exact congrFun (f139 29 (by decide)) 21
            try have u139_6 : σ139 29 26 = σ 29 26 := by first | exact o139 26 (by decide) | exact congrFun (f139 29 (by decide)) 26
            try have u139_7 : σ139 29 14 = σ 29 14 := by first | exact o139 14 (by decide) | exact congrFun (f139 29 (by decide)) 14
            try have u139_8 : σ139 29 15 = σ 29 15 := by first | exact o139 15 (by decide) | exact congrFun (f139 29 (by decide)) 15
            try have u139_9 : σ139 29 16 = σ 29 16 := by first | exact o139 16 (by decide) | exact congrFun (f139 29 (by decide)) 16
            try have u139_10 : σ139 29 17 = σ 29 17 := by first | exact o139 17 (by decide) | exact congrFun (f139 29 (by decide)) 17
            try have u139_11 : σ139 29 18 = σ 29 18 := by first | exact o139 18 (by decide) | exact congrFun (f139 29 (by decide)) 18
            have xx := x139
            refine pe_goto (t := 151) d_M_plain_142 ?_
            refine pe_rv d_M_plain_151 ?_
            first | exact ⟨hB, (fun b hb => (f139 b (by simp at hb ⊢; try omega)).trans (rfl)), (fun j hj => (o139 j (by simp at hj ⊢; try omega)).trans (rfl)), xx, ⟨by omega, by omega, by omega, by omega, by omega, by omega, by omega⟩⟩ | exact ⟨hB, (fun b hb => (f139 b (by simp at hb ⊢; try omega)).trans (rfl)), (fun j hj => (o139 j (by simp at hj ⊢; try omega)).trans (rfl)), pe_ME_g hM0 (by omega) (by omega) (by omega) ⟨by omega, by rw [show σ139 29 2 = σ 29 2 by omega]; exact hbg⟩ (by omega) ((f139 30 (by decide)).trans (rfl)) ((f139 31 (by decide)).trans (rfl)) ((f139 36 (by decide)).trans (rfl)) ((f139 32 (by decide)).trans (rfl)) ((f139 33 (by decide)).trans (rfl)) ((f139 34 (by decide)).trans (rfl)) ((f139 35 (by decide)).trans (rfl)), ⟨by omega, by omega, by omega, by omega, by omega, by omega, by omega⟩⟩
        · skip
          refine pe_aload_n d_M_plain_48 rfl ?_
          refine pe_iload_n d_M_plain_49 rfl ?_
          refine pe_sipush d_M_plain_50 ?_
          refine pe_icmp_ge (t := 60) d_M_plain_53 (by first | exact hB _ _ | exact hB0 _ _ | exact hBt _ _ | exact ⟨by omega, by omega⟩) (by first | exact hB _ _ | exact hB0 _ _ | exact hBt _ _ | exact ⟨by omega, by omega⟩) (fun h53 => ?_) (fun h53 => ?_)
          · skip
            refine pe_iconst d_M_plain_60 ?_
            refine pe_putiT f_M_184 g_11_15 d_M_plain_61 rfl rfl 15 rfl hB (by first | exact hB _ _ | exact hB0 _ _ | exact hBt _ _ | exact ⟨by omega, by omega⟩) (fun σ61 hB e61 o61 f61 => ?_)
            try have u61_0 : σ61 29 1 = σ 29 1 := by first | exact o61 1 (by decide) | exact congrFun (f61 29 (by decide)) 1
            try have u61_1 : σ61 29 2 = σ 29 2 := by first | exact o61 2 (by decide) | exact congrFun (f61 29 (by decide)) 2
            try have u61_2 : σ61 29 3 = σ 29 3 := by first | exact o61 3 (by decide) | exact congrFun (f61 29 (by decide)) 3
            try have u61_3 : σ61 29 5 = σ 29 5 := by first | exact o61 5 (by decide) | exact congrFun (f61 29 (by decide)) 5
            try have u61_4 : σ61 29 7 = σ 29 7 := by first | exact o61 7 (by decide) | exact congrFun (f61 29 (by decide)) 7
            try have u61_5 : σ61 29 21 = σ 29 21 := by first | exact o61 21 (by decide) | exact congrFun (f61 29 (by decide)) 21
            try have u61_6 : σ61 29 26 = σ 29 26 := by first | exact o61 26 (by decide) | exact congrFun (f61 29 (by decide)) 26
            try have u61_7 : σ61 29 14 = σ 29 14 := by first | exact o61 14 (by decide) | exact congrFun (f61 29 (by decide)) 14
            try have u61_8 : σ61 29 15 = σ 29 15 := by first | exact o61 15 (by decide) | exact congrFun (f61 29 (by decide)) 15
            try have u61_9 : σ61 29 16 = σ 29 16 := by first | exact o61 16 (by decide) | exact congrFun (f61 29 (by decide)) 16
            try have u61_10 : σ61 29 17 = σ 29 17 := by first | exact o61 17 (by decide) | exact congrFun (f61 29 (by decide)) 17
            try have u61_11 : σ61 29 18 = σ 29 18 := by first | exact o61 18 (by decide) | exact congrFun (f61 29 (by decide)) 18
            refine pe_aload_n d_M_plain_64 rfl ?_
            refine pe_iload_n d_M_plain_65 rfl ?_
            refine pe_sipush d_M_plain_66 ?_
            refine pe_icmp_ge (t := 79) d_M_plain_69 (by first | exact hB _ _ | exact hB0 _ _ | exact hBt _ _ | exact ⟨by omega, by omega⟩) (by first | exact hB _ _ | exact hB0 _ _ | exact hBt _ _ | exact ⟨by omega, by omega⟩) (fun h69 => ?_) (fun h69 => ?_)
            · skip
              refine pe_iload_n d_M_plain_79 rfl ?_
              refine pe_bipush d_M_plain_80 ?_
              refine pe_iand d_M_plain_82 (pe_and 4 16 (by omega) (by omega)) ?_
              refine pe_putiT f_M_187 g_11_16 d_M_plain_83 rfl rfl 16 rfl hB (by first | exact hB _ _ | exact hB0 _ _ | exact hBt _ _ | exact ⟨by omega, by omega⟩) (fun σ83 hB e83 o83 f83 => ?_)
              try have u83_0 : σ83 29 1 = σ61 29 1 := by first | exact o83 1 (by decide) | exact congrFun (f83 29 (by decide)) 1
              try have u83_1 : σ83 29 2 = σ61 29 2 := by first | exact o83 2 (by decide) | exact congrFun (f83 29 (by decide)) 2
              try have u83_2 : σ83 29 3 = σ61 29 3 := by first | exact o83 3 (by decide) | exact congrFun (f83 29 (by decide)) 3
              try have u83_3 : σ83 29 5 = σ61 29 5 := by first | exact o83 5 (by decide) | exact congrFun (f83 29 (by decide)) 5
              try have u83_4 : σ83 29 7 = σ61 29 7 := by first | exact o83 7 (by decide) | exact congrFun (f83 29 (by decide)) 7
              try have u83_5 : σ83 29 21 = σ61 29 21 := by first | exact o83 21 (by decide) | exact congrFun (f83 29 (by decide)) 21
              try have u83_6 : σ83 29 26 = σ61 29 26 := by first | exact o83 26 (by decide) | exact congrFun (f83 29 (by decide)) 26
              try have u83_7 : σ83 29 14 = σ61 29 14 := by first | exact o83 14 (by decide) | exact congrFun (f83 29 (by decide)) 14
              try have u83_8 : σ83 29 15 = σ61 29 15 := by first | exact o83 15 (by decide) | exact congrFun (f83 29 (by decide)) 15
              try have u83_9 : σ83 29 16 = σ61 29 16 := by first | exact o83 16 (by decide) | exact congrFun (f83 29 (by decide)) 16
              try have u83_10 : σ83 29 17 = σ61 29 17 := by first | exact o83 17 (by decide) | exact congrFun (f83 29 (by decide)) 17
              try have u83_11 : σ83 29 18 = σ61 29 18 := by first | exact o83 18 (by decide) | exact congrFun (f83 29 (by decide)) 18
              refine pe_aload_n d_M_plain_86 rfl ?_
              refine pe_iload_n d_M_plain_87 rfl ?_
              refine pe_sipush d_M_plain_88 ?_
              refine pe_icmp_ne (t := 100) d_M_plain_91 (by first | exact hB _ _ | exact hB0 _ _ | exact hBt _ _ | exact ⟨by omega, by omega⟩) (by first | exact hB _ _ | exact hB0 _ _ | exact hBt _ _ | exact ⟨by omega, by omega⟩) (fun h91 => ?_) (fun h91 => ?_)
              · skip
                refine pe_sipush d_M_plain_100 ?_
                refine pe_putiT f_M_190 g_11_17 d_M_plain_103 rfl rfl 17 rfl hB (by first | exact hB _ _ | exact hB0 _ _ | exact hBt _ _ | exact ⟨by omega, by omega⟩) (fun σ103 hB e103 o103 f103 => ?_)
                try have u103_0 : σ103 29 1 = σ83 29 1 := by first | exact o103 1 (by decide) | exact congrFun (f103 29 (by decide)) 1
                try have u103_1 : σ103 29 2 = σ83 29 2 := by first | exact o103 2 (by decide) | exact congrFun (f103 29 (by decide)) 2
                try have u103_2 : σ103 29 3 = σ83 29 3 := by first | exact o103 3 (by decide) | exact congrFun (f103 29 (by decide)) 3
                try have u103_3 : σ103 29 5 = σ83 29 5 := by first | exact o103 5 (by decide) | exact congrFun (f103 29 (by decide)) 5
                try have u103_4 : σ103 29 7 = σ83 29 7 := by first | exact o103 7 (by decide) | exact congrFun (f103 29 (by decide)) 7
                try have u103_5 : σ103 29 21 = σ83 29 21 := by first | exact o103 21 (by decide) | exact congrFun (f103 29 (by decide)) 21
                try have u103_6 : σ103 29 26 = σ83 29 26 := by first | exact o103 26 (by decide) | exact congrFun (f103 29 (by decide)) 26
                try have u103_7 : σ103 29 14 = σ83 29 14 := by first | exact o103 14 (by decide) | exact congrFun (f103 29 (by decide)) 14
                try have u103_8 : σ103 29 15 = σ83 29 15 := by first | exact o103 15 (by decide) | exact congrFun (f103 29 (by decide)) 15
                try have u103_9 : σ103 29 16 = σ83 29 16 := by first | exact o103 16 (by decide) | exact congrFun (f103 29 (by decide)) 16
                try have u103_10 : σ103 29 17 = σ83 29 17 := by first | exact o103 17 (by decide) | exact congrFun (f103 29 (by decide)) 17
                try have u103_11 : σ103 29 18 = σ83 29 18 := by first | exact o103 18 (by decide) | exact congrFun (f103 29 (by decide)) 18
                refine pe_aload_n d_M_plain_106 rfl ?_
                refine pe_iload_n d_M_plain_107 rfl ?_
                refine pe_sipush d_M_plain_108 ?_
                refine pe_icmp_ne (t := 120) d_M_plain_111 (by first | exact hB _ _ | exact hB0 _ _ | exact hBt _ _ | exact ⟨by omega, by omega⟩) (by first | exact hB _ _ | exact hB0 _ _ | exact hBt _ _ | exact ⟨by omega, by omega⟩) (fun h111 => ?_) (fun h111 => ?_)
                · skip
                  refine pe_sipush d_M_plain_120 ?_
                  refine pe_putiT f_M_193 g_11_18 d_M_plain_123 rfl rfl 18 rfl hB (by first | exact hB _ _ | exact hB0 _ _ | exact hBt _ _ | exact ⟨by omega, by omega⟩) (fun σ123 hB e123 o123 f123 => ?_)
                  try have u123_0 : σ123 29 1 = σ103 29 1 := by first | exact o123 1 (by decide) | exact congrFun (f123 29 (by decide)) 1
                  try have u123_1 : σ123 29 2 = σ103 29 2 := by first | exact o123 2 (by decide) | exact congrFun (f123 29 (by decide)) 2
                  try have u123_2 : σ123 29 3 = σ103 29 3 := by first | exact o123 3 (by decide) | exact congrFun (f123 29 (by decide)) 3
                  try have u123_3 : σ123 29 5 = σ103 29 5 := by first | exact o123 5 (by decide) | exact congrFun (f123 29 (by decide)) 5
                  try have u123_4 : σ123 29 7 = σ103 29 7 := by first | exact o123 7 (by decide) | exact congrFun (f123 29 (by decide)) 7
                  try have u123_5 : σ123 29 21 = σ103 29 21 := by first | exact o123 21 (by decide) | exact congrFun (f123 29 (by decide)) 21
                  try have u123_6 : σ123 29 26 = σ103 29 26 := by first | exact o123 26 (by decide) | exact congrFun (f123 29 (by decide)) 26
                  try have u123_7 : σ123 29 14 = σ103 29 14 := by first | exact o123 14 (by decide) | exact congrFun (f123 29 (by decide)) 14
                  try have u123_8 : σ123 29 15 = σ103 29 15 := by first | exact o123 15 (by decide) | exact congrFun (f123 29 (by decide)) 15
                  try have u123_9 : σ123 29 16 = σ103 29 16 := by first | exact o123 16 (by decide) | exact congrFun (f123 29 (by decide)) 16
                  try have u123_10 : σ123 29 17 = σ103 29 17 := by first | exact o123 17 (by decide) | exact congrFun (f123 29 (by decide)) 17
                  try have u123_11 : σ123 29 18 = σ103 29 18 := by first | exact o123 18 (by decide) | exact congrFun (f123 29 (by decide)) 18
                  refine pe_goto (t := 151) d_M_plain_126 ?_
                  refine pe_rv d_M_plain_151 ?_
                  first | exact ⟨hB, (fun b hb => (f123 b (by simp at hb ⊢; try omega)).trans ((f103 b (by simp at hb ⊢; try omega)).trans ((f83 b (by simp at hb ⊢; try omega)).trans ((f61 b (by simp at hb ⊢; try omega)).trans (rfl))))), (fun j hj => (o123 j (by simp at hj ⊢; try omega)).trans ((o103 j (by simp at hj ⊢; try omega)).trans ((o83 j (by simp at hj ⊢; try omega)).trans ((o61 j (by simp at hj ⊢; try omega)).trans (rfl))))), xx, ⟨by omega, by omega, by omega, by omega, by omega, by omega, by omega⟩⟩ | exact ⟨hB, (fun b hb => (f123 b (by simp at hb ⊢; try omega)).trans ((f103 b (by simp at hb ⊢; try omega)).trans ((f83 b (by simp at hb ⊢; try omega)).trans ((f61 b (by simp at hb ⊢; try omega)).trans (rfl))))), (fun j hj => (o123 j (by simp at hj ⊢; try omega)).trans ((o103 j (by simp at hj ⊢; try omega)).trans ((o83 j (by simp at hj ⊢; try omega)).trans ((o61 j (by simp at hj ⊢; try omega)).trans (rfl))))), pe_ME_g hM0 (by omega) (by omega) (by omega) ⟨by omega, by rw [show σ123 29 2 = σ 29 2 by omega]; exact hbg⟩ (by omega) ((f123 30 (by decide)).trans ((f103 30 (by decide)).trans ((f83 30 (by decide)).trans ((f61 30 (by decide)).trans (rfl))))) ((f123 31 (by decide)).trans ((f103 31 (by decide)).trans ((f83 31 (by decide)).trans ((f61 31 (by decide)).trans (rfl))))) ((f123 36 (by decide)).trans ((f103 36 (by decide)).trans ((f83 36 (by decide)).trans ((f61 36 (by decide)).trans (rfl))))) ((f123 32 (by decide)).trans ((f103 32 (by decide)).trans ((f83 32 (by decide)).trans ((f61 32 (by decide)).trans (rfl))))) ((f123 33 (by decide)).trans ((f103 33 (by decide)).trans ((f83 33 (by decide)).trans ((f61 33 (by decide)).trans (rfl))))) ((f123 34 (by decide)).trans ((f103 34 (by decide)).trans ((f83 34 (by decide)).trans ((f61 34 (by decide)).trans (rfl))))) ((f123 35 (by decide)).trans ((f103 35 (by decide)).trans ((f83 35 (by decide)).trans ((f61 35 (by decide)).trans (rfl))))), ⟨by omega, by omega, by omega, by omega, by omega, by omega, by omega⟩⟩
                · skip
                  refine pe_sipush d_M_plain_114 ?_
                  refine pe_goto (t := 123) d_M_plain_117 ?_
                  refine pe_putiT f_M_193 g_11_18 d_M_plain_123 rfl rfl 18 rfl hB (by first | exact hB _ _ | exact hB0 _ _ | exact hBt _ _ | exact ⟨by omega, by omega⟩) (fun σ123 hB e123 o123 f123 => ?_)
                  try have u123_0 : σ123 29 1 = σ103 29 1 := by first | exact o123 1 (by decide) | exact congrFun (f123 29 (by decide)) 1
                  try have u123_1 : σ123 29 2 = σ103 29 2 := by first | exact o123 2 (by decide) | exact congrFun (f123 29 (by decide)) 2
                  try have u123_2 : σ123 29 3 = σ103 29 3 := by first | exact o123 3 (by decide) | exact congrFun (f123 29 (by decide)) 3
                  try have u123_3 : σ123 29 5 = σ103 29 5 := by first | exact o123 5 (by decide) | exact congrFun (f123 29 (by decide)) 5
                  try have u123_4 : σ123 29 7 = σ103 29 7 := by first | exact o123 7 (by decide) | exact congrFun (f123 29 (by decide)) 7
                  try have u123_5 : σ123 29 21 = σ103 29 21 := by first | exact o123 21 (by decide) | exact congrFun (f123 29 (by decide)) 21
                  try have u123_6 : σ123 29 26 = σ103 29 26 := by first | exact o123 26 (by decide) | exact congrFun (f123 29 (by decide)) 26
                  try have u123_7 : σ123 29 14 = σ103 29 14 := by first | exact o123 14 (by decide) | exact congrFun (f123 29 (by decide)) 14
                  try have u123_8 : σ123 29 15 = σ103 29 15 := by first | exact o123 15 (by decide) | exact congrFun (f123 29 (by decide)) 15
                  try have u123_9 : σ123 29 16 = σ103 29 16 := by first | exact o123 16 (by decide) | exact congrFun (f123 29 (by decide)) 16
                  try have u123_10 : σ123 29 17 = σ103 29 17 := by first | exact o123 17 (by decide) | exact congrFun (f123 29 (by decide)) 17
                  try have u123_11 : σ123 29 18 = σ103 29 18 := by first | exact o123 18 (by decide) | exact congrFun (f123 29 (by decide)) 18
                  refine pe_goto (t := 151) d_M_plain_126 ?_
                  refine pe_rv d_M_plain_151 ?_
                  first | exact ⟨hB, (fun b hb => (f123 b (by simp at hb ⊢; try omega)).trans ((f103 b (by simp at hb ⊢; try omega)).trans ((f83 b (by simp at hb ⊢; try omega)).trans ((f61 b (by simp at hb ⊢; try omega)).trans (rfl))))), (fun j hj => (o123 j (by simp at hj ⊢; try omega)).trans ((o103 j (by simp at hj ⊢; try omega)).trans ((o83 j (by simp at hj ⊢; try omega)).trans ((o61 j (by simp at hj ⊢; try omega)).trans (rfl))))), xx, ⟨by omega, by omega, by omega, by omega, by omega, by omega, by omega⟩⟩ | exact ⟨hB, (fun b hb => (f123 b (by simp at hb ⊢; try omega)).trans ((f103 b (by simp at hb ⊢; try omega)).trans ((f83 b (by simp at hb ⊢; try omega)).trans ((f61 b (by simp at hb ⊢; try omega)).trans (rfl))))), (fun j hj => (o123 j (by simp at hj ⊢; try omega)).trans ((o103 j (by simp at hj ⊢; try omega)).trans ((o83 j (by simp at hj ⊢; try omega)).trans ((o61 j (by simp at hj ⊢; try omega)).trans (rfl))))), pe_ME_g hM0 (by omega) (by omega) (by omega) ⟨by omega, by rw [show σ123 29 2 = σ 29 2 by omega]; exact hbg⟩ (by omega) ((f123 30 (by decide)).trans ((f103 30 (by decide)).trans ((f83 30 (by decide)).trans ((f61 30 (by decide)).trans (rfl))))) ((f123 31 (by decide)).trans ((f103 31 (by decide)).trans ((f83 31 (by decide)).trans ((f61 31 (by decide)).trans (rfl))))) ((f123 36 (by decide)).trans ((f103 36 (by decide)).trans ((f83 36 (by decide)).trans ((f61 36 (by decide)).trans (rfl))))) ((f123 32 (by decide)).trans ((f103 32 (by decide)).trans ((f83 32 (by decide)).trans ((f61 32 (by decide)).trans (rfl))))) ((f123 33 (by decide)).trans ((f103 33 (by decide)).trans ((f83 33 (by decide)).trans ((f61 33 (by decide)).trans (rfl))))) ((f123 34 (by decide)).trans ((f103 34 (by decide)).trans ((f83 34 (by decide)).trans ((f61 34 (by decide)).trans (rfl))))) ((f123 35 (by decide)).trans ((f103 35 (by decide)).trans ((f83 35 (by decide)).trans ((f61 35 (by decide)).trans (rfl))))), ⟨by omega, by omega, by omega, by omega, by omega, by omega, by omega⟩⟩
              · skip
                refine pe_sipush d_M_plain_94 ?_
                refine pe_goto (t := 103) d_M_plain_97 ?_
                refine pe_putiT f_M_190 g_11_17 d_M_plain_103 rfl rfl 17 rfl hB (by first | exact hB _ _ | exact hB0 _ _ | exact hBt _ _ | exact ⟨by omega, by omega⟩) (fun σ103 hB e103 o103 f103 => ?_)
                try have u103_0 : σ103 29 1 = σ83 29 1 := by first | exact o103 1 (by decide) | exact congrFun (f103 29 (by decide)) 1
                try have u103_1 : σ103 29 2 = σ83 29 2 := by first | exact o103 2 (by decide) | exact congrFun (f103 29 (by decide)) 2
                try have u103_2 : σ103 29 3 = σ83 29 3 := by first | exact o103 3 (by decide) | exact congrFun (f103 29 (by decide)) 3
                try have u103_3 : σ103 29 5 = σ83 29 5 := by first | exact o103 5 (by decide) | exact congrFun (f103 29 (by decide)) 5
                try have u103_4 : σ103 29 7 = σ83 29 7 := by first | exact o103 7 (by decide) | exact congrFun (f103 29 (by decide)) 7
                try have u103_5 : σ103 29 21 = σ83 29 21 := by first | exact o103 21 (by decide) | exact congrFun (f103 29 (by decide)) 21
                try have u103_6 : σ103 29 26 = σ83 29 26 := by first | exact o103 26 (by decide) | exact congrFun (f103 29 (by decide)) 26
                try have u103_7 : σ103 29 14 = σ83 29 14 := by first | exact o103 14 (by decide) | exact congrFun (f103 29 (by decide)) 14
                try have u103_8 : σ103 29 15 = σ83 29 15 := by first | exact o103 15 (by decide) | exact congrFun (f103 29 (by decide)) 15
                try have u103_9 : σ103 29 16 = σ83 29 16 := by first | exact o103 16 (by decide) | exact congrFun (f103 29 (by decide)) 16
                try have u103_10 : σ103 29 17 = σ83 29 17 := by first | exact o103 17 (by decide) | exact congrFun (f103 29 (by decide)) 17
                try have u103_11 : σ103 29 18 = σ83 29 18 := by first | exact o103 18 (by decide) | exact congrFun (f103 29 (by decide)) 18
                refine pe_aload_n d_M_plain_106 rfl ?_
                refine pe_iload_n d_M_plain_107 rfl ?_
                refine pe_sipush d_M_plain_108 ?_
                refine pe_icmp_ne (t := 120) d_M_plain_111 (by first | exact hB _ _ | exact hB0 _ _ | exact hBt _ _ | exact ⟨by omega, by omega⟩) (by first | exact hB _ _ | exact hB0 _ _ | exact hBt _ _ | exact ⟨by omega, by omega⟩) (fun h111 => ?_) (fun h111 => ?_)
                · skip
                  refine pe_sipush d_M_plain_120 ?_
                  refine pe_putiT f_M_193 g_11_18 d_M_plain_123 rfl rfl 18 rfl hB (by first | exact hB _ _ | exact hB0 _ _ | exact hBt _ _ | exact ⟨by omega, by omega⟩) (fun σ123 hB e123 o123 f123 => ?_)
                  try have u123_0 : σ123 29 1 = σ103 29 1 := by first | exact o123 1 (by decide) | exact congrFun (f123 29 (by decide)) 1
                  try have u123_1 : σ123 29 2 = σ103 29 2 := by first | exact o123 2 (by decide) | exact congrFun (f123 29 (by decide)) 2
                  try have u123_2 : σ123 29 3 = σ103 29 3 := by first | exact o123 3 (by decide) | exact congrFun (f123 29 (by decide)) 3
                  try have u123_3 : σ123 29 5 = σ103 29 5 := by first | exact o123 5 (by decide) | exact congrFun (f123 29 (by decide)) 5
                  try have u123_4 : σ123 29 7 = σ103 29 7 := by first | exact o123 7 (by decide) | exact congrFun (f123 29 (by decide)) 7
                  try have u123_5 : σ123 29 21 = σ103 29 21 := by first | exact o123 21 (by decide) | exact congrFun (f123 29 (by decide)) 21
                  try have u123_6 : σ123 29 26 = σ103 29 26 := by first | exact o123 26 (by decide) | exact congrFun (f123 29 (by decide)) 26
                  try have u123_7 : σ123 29 14 = σ103 29 14 := by first | exact o123 14 (by decide) | exact congrFun (f123 29 (by decide)) 14
                  try have u123_8 : σ123 29 15 = σ103 29 15 := by first | exact o123 15 (by decide) | exact congrFun (f123 29 (by decide)) 15
                  try have u123_9 : σ123 29 16 = σ103 29 16 := by first | exact o123 16 (by decide) | exact congrFun (f123 29 (by decide)) 16
                  try have u123_10 : σ123 29 17 = σ103 29 17 := by first | exact o123 17 (by decide) | exact congrFun (f123 29 (by decide)) 17
                  try have u123_11 : σ123 29 18 = σ103 29 18 := by first | exact o123 18 (by decide) | exact congrFun (f123 29 (by decide)) 18
                  refine pe_goto (t := 151) d_M_plain_126 ?_
                  refine pe_rv d_M_plain_151 ?_
                  first | exact ⟨hB, (fun b hb => (f123 b (by simp at hb ⊢; try omega)).trans ((f103 b (by simp at hb ⊢; try omega)).trans ((f83 b (by simp at hb ⊢; try omega)).trans ((f61 b (by simp at hb ⊢; try omega)).trans (rfl))))), (fun j hj => (o123 j (by simp at hj ⊢; try omega)).trans ((o103 j (by simp at hj ⊢; try omega)).trans ((o83 j (by simp at hj ⊢; try omega)).trans ((o61 j (by simp at hj ⊢; try omega)).trans (rfl))))), xx, ⟨by omega, by omega, by omega, by omega, by omega, by omega, by omega⟩⟩ | exact ⟨hB, (fun b hb => (f123 b (by simp at hb ⊢; try omega)).trans ((f103 b (by simp at hb ⊢; try omega)).trans ((f83 b (by simp at hb ⊢; try omega)).trans ((f61 b (by simp at hb ⊢; try omega)).trans (rfl))))), (fun j hj => (o123 j (by simp at hj ⊢; try omega)).trans ((o103 j (by simp at hj ⊢; try omega)).trans ((o83 j (by simp at hj ⊢; try omega)).trans ((o61 j (by simp at hj ⊢; try omega)).trans (rfl))))), pe_ME_g hM0 (by omega) (by omega) (by omega) ⟨by omega, by rw [show σ123 29 2 = σ 29 2 by omega]; exact hbg⟩ (by omega) ((f123 30 (by decide)).trans ((f103 30 (by decide)).trans ((f83 30 (by decide)).trans ((f61 30 (by decide)).trans (rfl))))) ((f123 31 (by decide)).trans ((f103 31 (by decide)).trans ((f83 31 (by decide)).trans ((f61 31 (by decide)).trans (rfl))))) ((f123 36 (by decide)).trans ((f103 36 (by decide)).trans ((f83 36 (by decide)).trans ((f61 36 (by decide)).trans (rfl))))) ((f123 32 (by decide)).trans ((f103 32 (by decide)).trans ((f83 32 (by decide)).trans ((f61 32 (by decide)).trans (rfl))))) ((f123 33 (by decide)).trans ((f103 33 (by decide)).trans ((f83 33 (by decide)).trans ((f61 33 (by decide)).trans (rfl))))) ((f123 34 (by decide)).trans ((f103 34 (by decide)).trans ((f83 34 (by decide)).trans ((f61 34 (by decide)).trans (rfl))))) ((f123 35 (by decide)).trans ((f103 35 (by decide)).trans ((f83 35 (by decide)).trans ((f61 35 (by decide)).trans (rfl))))), ⟨by omega, by omega, by omega, by omega, by omega, by omega, by omega⟩⟩
                · skip
                  refine pe_sipush d_M_plain_114 ?_
                  refine pe_goto (t := 123) d_M_plain_117 ?_
                  refine pe_putiT f_M_193 g_11_18 d_M_plain_123 rfl rfl 18 rfl hB (by first | exact hB _ _ | exact hB0 _ _ | exact hBt _ _ | exact ⟨by omega, by omega⟩) (fun σ123 hB e123 o123 f123 => ?_)
                  try have u123_0 : σ123 29 1 = σ103 29 1 := by first | exact o123 1 (by decide) | exact congrFun (f123 29 (by decide)) 1
                  try have u123_1 : σ123 29 2 = σ103 29 2 := by first | exact o123 2 (by decide) | exact congrFun (f123 29 (by decide)) 2
                  try have u123_2 : σ123 29 3 = σ103 29 3 := by first | exact o123 3 (by decide) | exact congrFun (f123 29 (by decide)) 3
                  try have u123_3 : σ123 29 5 = σ103 29 5 := by first | exact o123 5 (by decide) | exact congrFun (f123 29 (by decide)) 5
                  try have u123_4 : σ123 29 7 = σ103 29 7 := by first | exact o123 7 (by decide) | exact congrFun (f123 29 (by decide)) 7
                  try have u123_5 : σ123 29 21 = σ103 29 21 := by first | exact o123 21 (by decide) | exact congrFun (f123 29 (by decide)) 21
                  try have u123_6 : σ123 29 26 = σ103 29 26 := by first | exact o123 26 (by decide) | exact congrFun (f123 29 (by decide)) 26
                  try have u123_7 : σ123 29 14 = σ103 29 14 := by first | exact o123 14 (by decide) | exact congrFun (f123 29 (by decide)) 14
                  try have u123_8 : σ123 29 15 = σ103 29 15 := by first | exact o123 15 (by decide) | exact congrFun (f123 29 (by decide)) 15
                  try have u123_9 : σ123 29 16 = σ103 29 16 := by first | exact o123 16 (by decide) | exact congrFun (f123 29 (by decide)) 16
                  try have u123_10 : σ123 29 17 = σ103 29 17 := by first | exact o123 17 (by decide) | exact congrFun (f123 29 (by decide)) 17
                  try have u123_11 : σ123 29 18 = σ103 29 18 := by first | exact o123 18 (by decide) | exact congrFun (f123 29 (by decide)) 18
                  refine pe_goto (t := 151) d_M_plain_126 ?_
                  refine pe_rv d_M_plain_151 ?_
                  first | exact ⟨hB, (fun b hb => (f123 b (by simp at hb ⊢; try omega)).trans ((f103 b (by simp at hb ⊢; try omega)).trans ((f83 b (by simp at hb ⊢; try omega)).trans ((f61 b (by simp at hb ⊢; try omega)).trans (rfl))))), (fun j hj => (o123 j (by simp at hj ⊢; try omega)).trans ((o103 j (by simp at hj ⊢; try omega)).trans ((o83 j (by simp at hj ⊢; try omega)).trans ((o61 j (by simp at hj ⊢; try omega)).trans (rfl))))), xx, ⟨by omega, by omega, by omega, by omega, by omega, by omega, by omega⟩⟩ | exact ⟨hB, (fun b hb => (f123 b (by simp at hb ⊢; try omega)).trans ((f103 b (by simp at hb ⊢; try omega)).trans ((f83 b (by simp at hb ⊢; try omega)).trans ((f61 b (by simp at hb ⊢; try omega)).trans (rfl))))), (fun j hj => (o123 j (by simp at hj ⊢; try omega)).trans ((o103 j (by simp at hj ⊢; try omega)).trans ((o83 j (by simp at hj ⊢; try omega)).trans ((o61 j (by simp at hj ⊢; try omega)).trans (rfl))))), pe_ME_g hM0 (by omega) (by omega) (by omega) ⟨by omega, by rw [show σ123 29 2 = σ 29 2 by omega]; exact hbg⟩ (by omega) ((f123 30 (by decide)).trans ((f103 30 (by decide)).trans ((f83 30 (by decide)).trans ((f61 30 (by decide)).trans (rfl))))) ((f123 31 (by decide)).trans ((f103 31 (by decide)).trans ((f83 31 (by decide)).trans ((f61 31 (by decide)).trans (rfl))))) ((f123 36 (by decide)).trans ((f103 36 (by decide)).trans ((f83 36 (by decide)).trans ((f61 36 (by decide)).trans (rfl))))) ((f123 32 (by decide)).trans ((f103 32 (by decide)).trans ((f83 32 (by decide)).trans ((f61 32 (by decide)).trans (rfl))))) ((f123 33 (by decide)).trans ((f103 33 (by decide)).trans ((f83 33 (by decide)).trans ((f61 33 (by decide)).trans (rfl))))) ((f123 34 (by decide)).trans ((f103 34 (by decide)).trans ((f83 34 (by decide)).trans ((f61 34 (by decide)).trans (rfl))))) ((f123 35 (by decide)).trans ((f103 35 (by decide)).trans ((f83 35 (by decide)).trans ((f61 35 (by decide)).trans (rfl))))), ⟨by omega, by omega, by omega, by omega, by omega, by omega, by omega⟩⟩
            · skip
              refine pe_iload_n d_M_plain_72 rfl ?_
              refine pe_bipush d_M_plain_73 ?_
              refine pe_iand d_M_plain_75 (pe_and 5 32 (by omega) (by omega)) ?_
              refine pe_goto (t := 83) d_M_plain_76 ?_
              refine pe_putiT f_M_187 g_11_16 d_M_plain_83 rfl rfl 16 rfl hB (by first | exact hB _ _ | exact hB0 _ _ | exact hBt _ _ | exact ⟨by omega, by omega⟩) (fun σ83 hB e83 o83 f83 => ?_)
              try have u83_0 : σ83 29 1 = σ61 29 1 := by first | exact o83 1 (by decide) | exact congrFun (f83 29 (by decide)) 1
              try have u83_1 : σ83 29 2 = σ61 29 2 := by first | exact o83 2 (by decide) | exact congrFun (f83 29 (by decide)) 2
              try have u83_2 : σ83 29 3 = σ61 29 3 := by first | exact o83 3 (by decide) | exact congrFun (f83 29 (by decide)) 3
              try have u83_3 : σ83 29 5 = σ61 29 5 := by first | exact o83 5 (by decide) | exact congrFun (f83 29 (by decide)) 5
              try have u83_4 : σ83 29 7 = σ61 29 7 := by first | exact o83 7 (by decide) | exact congrFun (f83 29 (by decide)) 7
              try have u83_5 : σ83 29 21 = σ61 29 21 := by first | exact o83 21 (by decide) | exact congrFun (f83 29 (by decide)) 21
              try have u83_6 : σ83 29 26 = σ61 29 26 := by first | exact o83 26 (by decide) | exact congrFun (f83 29 (by decide)) 26
              try have u83_7 : σ83 29 14 = σ61 29 14 := by first | exact o83 14 (by decide) | exact congrFun (f83 29 (by decide)) 14
              try have u83_8 : σ83 29 15 = σ61 29 15 := by first | exact o83 15 (by decide) | exact congrFun (f83 29 (by decide)) 15
              try have u83_9 : σ83 29 16 = σ61 29 16 := by first | exact o83 16 (by decide) | exact congrFun (f83 29 (by decide)) 16
              try have u83_10 : σ83 29 17 = σ61 29 17 := by first | exact o83 17 (by decide) | exact congrFun (f83 29 (by decide)) 17
              try have u83_11 : σ83 29 18 = σ61 29 18 := by first | exact o83 18 (by decide) | exact congrFun (f83 29 (by decide)) 18
              refine pe_aload_n d_M_plain_86 rfl ?_
              refine pe_iload_n d_M_plain_87 rfl ?_
              refine pe_sipush d_M_plain_88 ?_
              refine pe_icmp_ne (t := 100) d_M_plain_91 (by first | exact hB _ _ | exact hB0 _ _ | exact hBt _ _ | exact ⟨by omega, by omega⟩) (by first | exact hB _ _ | exact hB0 _ _ | exact hBt _ _ | exact ⟨by omega, by omega⟩) (fun h91 => ?_) (fun h91 => ?_)
              · skip
                refine pe_sipush d_M_plain_100 ?_
                refine pe_putiT f_M_190 g_11_17 d_M_plain_103 rfl rfl 17 rfl hB (by first | exact hB _ _ | exact hB0 _ _ | exact hBt _ _ | exact ⟨by omega, by omega⟩) (fun σ103 hB e103 o103 f103 => ?_)
                try have u103_0 : σ103 29 1 = σ83 29 1 := by first | exact o103 1 (by decide) | exact congrFun (f103 29 (by decide)) 1
                try have u103_1 : σ103 29 2 = σ83 29 2 := by first | exact o103 2 (by decide) | exact congrFun (f103 29 (by decide)) 2
                try have u103_2 : σ103 29 3 = σ83 29 3 := by first | exact o103 3 (by decide) | exact congrFun (f103 29 (by decide)) 3
                try have u103_3 : σ103 29 5 = σ83 29 5 := by first | exact o103 5 (by decide) | exact congrFun (f103 29 (by decide)) 5
                try have u103_4 : σ103 29 7 = σ83 29 7 := by first | exact o103 7 (by decide) | exact congrFun (f103 29 (by decide)) 7
                try have u103_5 : σ103 29 21 = σ83 29 21 := by first | exact o103 21 (by decide) | exact congrFun (f103 29 (by decide)) 21
                try have u103_6 : σ103 29 26 = σ83 29 26 := by first | exact o103 26 (by decide) | exact congrFun (f103 29 (by decide)) 26
                try have u103_7 : σ103 29 14 = σ83 29 14 := by first | exact o103 14 (by decide) | exact congrFun (f103 29 (by decide)) 14
                try have u103_8 : σ103 29 15 = σ83 29 15 := by first | exact o103 15 (by decide) | exact congrFun (f103 29 (by decide)) 15
                try have u103_9 : σ103 29 16 = σ83 29 16 := by first | exact o103 16 (by decide) | exact congrFun (f103 29 (by decide)) 16
                try have u103_10 : σ103 29 17 = σ83 29 17 := by first | exact o103 17 (by decide) | exact congrFun (f103 29 (by decide)) 17
                try have u103_11 : σ103 29 18 = σ83 29 18 := by first | exact o103 18 (by decide) | exact congrFun (f103 29 (by decide)) 18
                refine pe_aload_n d_M_plain_106 rfl ?_
                refine pe_iload_n d_M_plain_107 rfl ?_
                refine pe_sipush d_M_plain_108 ?_
                refine pe_icmp_ne (t := 120) d_M_plain_111 (by first | exact hB _ _ | exact hB0 _ _ | exact hBt _ _ | exact ⟨by omega, by omega⟩) (by first | exact hB _ _ | exact hB0 _ _ | exact hBt _ _ | exact ⟨by omega, by omega⟩) (fun h111 => ?_) (fun h111 => ?_)
                · skip
                  refine pe_sipush d_M_plain_120 ?_
                  refine pe_putiT f_M_193 g_11_18 d_M_plain_123 rfl rfl 18 rfl hB (by first | exact hB _ _ | exact hB0 _ _ | exact hBt _ _ | exact ⟨by omega, by omega⟩) (fun σ123 hB e123 o123 f123 => ?_)
                  try have u123_0 : σ123 29 1 = σ103 29 1 := by first | exact o123 1 (by decide) | exact congrFun (f123 29 (by decide)) 1
                  try have u123_1 : σ123 29 2 = σ103 29 2 := by first | exact o123 2 (by decide) | exact congrFun (f123 29 (by decide)) 2
                  try have u123_2 : σ123 29 3 = σ103 29 3 := by first | exact o123 3 (by decide) | exact congrFun (f123 29 (by decide)) 3
                  try have u123_3 : σ123 29 5 = σ103 29 5 := by first | exact o123 5 (by decide) | exact congrFun (f123 29 (by decide)) 5
                  try have u123_4 : σ123 29 7 = σ103 29 7 := by first | exact o123 7 (by decide) | exact congrFun (f123 29 (by decide)) 7
                  try have u123_5 : σ123 29 21 = σ103 29 21 := by first | exact o123 21 (by decide) | exact congrFun (f123 29 (by decide)) 21
                  try have u123_6 : σ123 29 26 = σ103 29 26 := by first | exact o123 26 (by decide) | exact congrFun (f123 29 (by decide)) 26
                  try have u123_7 : σ123 29 14 = σ103 29 14 := by first | exact o123 14 (by decide) | exact congrFun (f123 29 (by decide)) 14
                  try have u123_8 : σ123 29 15 = σ103 29 15 := by first | exact o123 15 (by decide) | exact congrFun (f123 29 (by decide)) 15
                  try have u123_9 : σ123 29 16 = σ103 29 16 := by first | exact o123 16 (by decide) | exact congrFun (f123 29 (by decide)) 16
                  try have u123_10 : σ123 29 17 = σ103 29 17 := by first | exact o123 17 (by decide) | exact congrFun (f123 29 (by decide)) 17
                  try have u123_11 : σ123 29 18 = σ103 29 18 := by first | exact o123 18 (by decide) | exact congrFun (f123 29 (by decide)) 18
                  refine pe_goto (t := 151) d_M_plain_126 ?_
                  refine pe_rv d_M_plain_151 ?_
                  first | exact ⟨hB, (fun b hb => (f123 b (by simp at hb ⊢; try omega)).trans ((f103 b (by simp at hb ⊢; try omega)).trans ((f83 b (by simp at hb ⊢; try omega)).trans ((f61 b (by simp at hb ⊢; try omega)).trans (rfl))))), (fun j hj => (o123 j (by simp at hj ⊢; try omega)).trans ((o103 j (by simp at hj ⊢; try omega)).trans ((o83 j (by simp at hj ⊢; try omega)).trans ((o61 j (by simp at hj ⊢; try omega)).trans (rfl))))), xx, ⟨by omega, by omega, by omega, by omega, by omega, by omega, by omega⟩⟩ | exact ⟨hB, (fun b hb => (f123 b (by simp at hb ⊢; try omega)).trans ((f103 b (by simp at hb ⊢; try omega)).trans ((f83 b (by simp at hb ⊢; try omega)).trans ((f61 b (by simp at hb ⊢; try omega)).trans (rfl))))), (fun j hj => (o123 j (by simp at hj ⊢; try omega)).trans ((o103 j (by simp at hj ⊢; try omega)).trans ((o83 j (by simp at hj ⊢; try omega)).trans ((o61 j (by simp at hj ⊢; try omega)).trans (rfl))))), pe_ME_g hM0 (by omega) (by omega) (by omega) ⟨by omega, by rw [show σ123 29 2 = σ 29 2 by omega]; exact hbg⟩ (by omega) ((f123 30 (by decide)).trans ((f103 30 (by decide)).trans ((f83 30 (by decide)).trans ((f61 30 (by decide)).trans (rfl))))) ((f123 31 (by decide)).trans ((f103 31 (by decide)).trans ((f83 31 (by decide)).trans ((f61 31 (by decide)).trans (rfl))))) ((f123 36 (by decide)).trans ((f103 36 (by decide)).trans ((f83 36 (by decide)).trans ((f61 36 (by decide)).trans (rfl))))) ((f123 32 (by decide)).trans ((f103 32 (by decide)).trans ((f83 32 (by decide)).trans ((f61 32 (by decide)).trans (rfl))))) ((f123 33 (by decide)).trans ((f103 33 (by decide)).trans ((f83 33 (by decide)).trans ((f61 33 (by decide)).trans (rfl))))) ((f123 34 (by decide)).trans ((f103 34 (by decide)).trans ((f83 34 (by decide)).trans ((f61 34 (by decide)).trans (rfl))))) ((f123 35 (by decide)).trans ((f103 35 (by decide)).trans ((f83 35 (by decide)).trans ((f61 35 (by decide)).trans (rfl))))), ⟨by omega, by omega, by omega, by omega, by omega, by omega, by omega⟩⟩
                · skip
                  refine pe_sipush d_M_plain_114 ?_
                  refine pe_goto (t := 123) d_M_plain_117 ?_
                  refine pe_putiT f_M_193 g_11_18 d_M_plain_123 rfl rfl 18 rfl hB (by first | exact hB _ _ | exact hB0 _ _ | exact hBt _ _ | exact ⟨by omega, by omega⟩) (fun σ123 hB e123 o123 f123 => ?_)
                  try have u123_0 : σ123 29 1 = σ103 29 1 := by first | exact o123 1 (by decide) | exact congrFun (f123 29 (by decide)) 1
                  try have u123_1 : σ123 29 2 = σ103 29 2 := by first | exact o123 2 (by decide) | exact congrFun (f123 29 (by decide)) 2
                  try have u123_2 : σ123 29 3 = σ103 29 3 := by first | exact o123 3 (by decide) | exact congrFun (f123 29 (by decide)) 3
                  try have u123_3 : σ123 29 5 = σ103 29 5 := by first | exact o123 5 (by decide) | exact congrFun (f123 29 (by decide)) 5
                  try have u123_4 : σ123 29 7 = σ103 29 7 := by first | exact o123 7 (by decide) | exact congrFun (f123 29 (by decide)) 7
                  try have u123_5 : σ123 29 21 = σ103 29 21 := by first | exact o123 21 (by decide) | exact congrFun (f123 29 (by decide)) 21
                  try have u123_6 : σ123 29 26 = σ103 29 26 := by first | exact o123 26 (by decide) | exact congrFun (f123 29 (by decide)) 26
                  try have u123_7 : σ123 29 14 = σ103 29 14 := by first | exact o123 14 (by decide) | exact congrFun (f123 29 (by decide)) 14
                  try have u123_8 : σ123 29 15 = σ103 29 15 := by first | exact o123 15 (by decide) | exact congrFun (f123 29 (by decide)) 15
                  try have u123_9 : σ123 29 16 = σ103 29 16 := by first | exact o123 16 (by decide) | exact congrFun (f123 29 (by decide)) 16
                  try have u123_10 : σ123 29 17 = σ103 29 17 := by first | exact o123 17 (by decide) | exact congrFun (f123 29 (by decide)) 17
                  try have u123_11 : σ123 29 18 = σ103 29 18 := by first | exact o123 18 (by decide) | exact congrFun (f123 29 (by decide)) 18
                  refine pe_goto (t := 151) d_M_plain_126 ?_
                  refine pe_rv d_M_plain_151 ?_
                  first | exact ⟨hB, (fun b hb => (f123 b (by simp at hb ⊢; try omega)).trans ((f103 b (by simp at hb ⊢; try omega)).trans ((f83 b (by simp at hb ⊢; try omega)).trans ((f61 b (by simp at hb ⊢; try omega)).trans (rfl))))), (fun j hj => (o123 j (by simp at hj ⊢; try omega)).trans ((o103 j (by simp at hj ⊢; try omega)).trans ((o83 j (by simp at hj ⊢; try omega)).trans ((o61 j (by simp at hj ⊢; try omega)).trans (rfl))))), xx, ⟨by omega, by omega, by omega, by omega, by omega, by omega, by omega⟩⟩ | exact ⟨hB, (fun b hb => (f123 b (by simp at hb ⊢; try omega)).trans ((f103 b (by simp at hb ⊢; try omega)).trans ((f83 b (by simp at hb ⊢; try omega)).trans ((f61 b (by simp at hb ⊢; try omega)).trans (rfl))))), (fun j hj => (o123 j (by simp at hj ⊢; try omega)).trans ((o103 j (by simp at hj ⊢; try omega)).trans ((o83 j (by simp at hj ⊢; try omega)).trans ((o61 j (by simp at hj ⊢; try omega)).trans (rfl))))), pe_ME_g hM0 (by omega) (by omega) (by omega) ⟨by omega, by rw [show σ123 29 2 = σ 29 2 by omega]; exact hbg⟩ (by omega) ((f123 30 (by decide)).trans ((f103 30 (by decide)).trans ((f83 30 (by decide)).trans ((f61 30 (by decide)).trans (rfl))))) ((f123 31 (by decide)).trans ((f103 31 (by decide)).trans ((f83 31 (by decide)).trans ((f61 31 (by decide)).trans (rfl))))) ((f123 36 (by decide)).trans ((f103 36 (by decide)).trans ((f83 36 (by decide)).trans ((f61 36 (by decide)).trans (rfl))))) ((f123 32 (by decide)).trans ((f103 32 (by decide)).trans ((f83 32 (by decide)).trans ((f61 32 (by decide)).trans (rfl))))) ((f123 33 (by decide)).trans ((f103 33 (by decide)).trans ((f83 33 (by decide)).trans ((f61 33 (by decide)).trans (rfl))))) ((f123 34 (by decide)).trans ((f103 34 (by decide)).trans ((f83 34 (by decide)).trans ((f61 34 (by decide)).trans (rfl))))) ((f123 35 (by decide)).trans ((f103 35 (by decide)).trans ((f83 35 (by decide)).trans ((f61 35 (by decide)).trans (rfl))))), ⟨by omega, by omega, by omega, by omega, by omega, by omega, by omega⟩⟩
              · skip
                refine pe_sipush d_M_plain_94 ?_
                refine pe_goto (t := 103) d_M_plain_97 ?_
                refine pe_putiT f_M_190 g_11_17 d_M_plain_103 rfl rfl 17 rfl hB (by first | exact hB _ _ | exact hB0 _ _ | exact hBt _ _ | exact ⟨by omega, by omega⟩) (fun σ103 hB e103 o103 f103 => ?_)
                try have u103_0 : σ103 29 1 = σ83 29 1 := by first | exact o103 1 (by decide) | exact congrFun (f103 29 (by decide)) 1
                try have u103_1 : σ103 29 2 = σ83 29 2 := by first | exact o103 2 (by decide) | exact congrFun (f103 29 (by decide)) 2
                try have u103_2 : σ103 29 3 = σ83 29 3 := by first | exact o103 3 (by decide) | exact congrFun (f103 29 (by decide)) 3
                try have u103_3 : σ103 29 5 = σ83 29 5 := by first | exact o103 5 (by decide) | exact congrFun (f103 29 (by decide)) 5
                try have u103_4 : σ103 29 7 = σ83 29 7 := by first | exact o103 7 (by decide) | exact congrFun (f103 29 (by decide)) 7
                try have u103_5 : σ103 29 21 = σ83 29 21 := by first | exact o103 21 (by decide) | exact congrFun (f103 29 (by decide)) 21
                try have u103_6 : σ103 29 26 = σ83 29 26 := by first | exact o103 26 (by decide) | exact congrFun (f103 29 (by decide)) 26
                try have u103_7 : σ103 29 14 = σ83 29 14 := by first | exact o103 14 (by decide) | exact congrFun (f103 29 (by decide)) 14
                try have u103_8 : σ103 29 15 = σ83 29 15 := by first | exact o103 15 (by decide) | exact congrFun (f103 29 (by decide)) 15
                try have u103_9 : σ103 29 16 = σ83 29 16 := by first | exact o103 16 (by decide) | exact congrFun (f103 29 (by decide)) 16
                try have u103_10 : σ103 29 17 = σ83 29 17 := by first | exact o103 17 (by decide) | exact congrFun (f103 29 (by decide)) 17
                try have u103_11 : σ103 29 18 = σ83 29 18 := by first | exact o103 18 (by decide) | exact congrFun (f103 29 (by decide)) 18
                refine pe_aload_n d_M_plain_106 rfl ?_
                refine pe_iload_n d_M_plain_107 rfl ?_
                refine pe_sipush d_M_plain_108 ?_
                refine pe_icmp_ne (t := 120) d_M_plain_111 (by first | exact hB _ _ | exact hB0 _ _ | exact hBt _ _ | exact ⟨by omega, by omega⟩) (by first | exact hB _ _ | exact hB0 _ _ | exact hBt _ _ | exact ⟨by omega, by omega⟩) (fun h111 => ?_) (fun h111 => ?_)
                · skip
                  refine pe_sipush d_M_plain_120 ?_
                  refine pe_putiT f_M_193 g_11_18 d_M_plain_123 rfl rfl 18 rfl hB (by first | exact hB _ _ | exact hB0 _ _ | exact hBt _ _ | exact ⟨by omega, by omega⟩) (fun σ123 hB e123 o123 f123 => ?_)
                  try have u123_0 : σ123 29 1 = σ103 29 1 := by first | exact o123 1 (by decide) | exact congrFun (f123 29 (by decide)) 1
                  try have u123_1 : σ123 29 2 = σ103 29 2 := by first | exact o123 2 (by decide) | exact congrFun (f123 29 (by decide)) 2
                  try have u123_2 : σ123 29 3 = σ103 29 3 := by first | exact o123 3 (by decide) | exact congrFun (f123 29 (by decide)) 3
                  try have u123_3 : σ123 29 5 = σ103 29 5 := by first | exact o123 5 (by decide) | exact congrFun (f123 29 (by decide)) 5
                  try have u123_4 : σ123 29 7 = σ103 29 7 := by first | exact o123 7 (by decide) | exact congrFun (f123 29 (by decide)) 7
                  try have u123_5 : σ123 29 21 = σ103 29 21 := by first | exact o123 21 (by decide) | exact congrFun (f123 29 (by decide)) 21
                  try have u123_6 : σ123 29 26 = σ103 29 26 := by first | exact o123 26 (by decide) | exact congrFun (f123 29 (by decide)) 26
                  try have u123_7 : σ123 29 14 = σ103 29 14 := by first | exact o123 14 (by decide) | exact congrFun (f123 29 (by decide)) 14
                  try have u123_8 : σ123 29 15 = σ103 29 15 := by first | exact o123 15 (by decide) | exact congrFun (f123 29 (by decide)) 15
                  try have u123_9 : σ123 29 16 = σ103 29 16 := by first | exact o123 16 (by decide) | exact congrFun (f123 29 (by decide)) 16
                  try have u123_10 : σ123 29 17 = σ103 29 17 := by first | exact o123 17 (by decide) | exact congrFun (f123 29 (by decide)) 17
                  try have u123_11 : σ123 29 18 = σ103 29 18 := by first | exact o123 18 (by decide) | exact congrFun (f123 29 (by decide)) 18
                  refine pe_goto (t := 151) d_M_plain_126 ?_
                  refine pe_rv d_M_plain_151 ?_
                  first | exact ⟨hB, (fun b hb => (f123 b (by simp at hb ⊢; try omega)).trans ((f103 b (by simp at hb ⊢; try omega)).trans ((f83 b (by simp at hb ⊢; try omega)).trans ((f61 b (by simp at hb ⊢; try omega)).trans (rfl))))), (fun j hj => (o123 j (by simp at hj ⊢; try omega)).trans ((o103 j (by simp at hj ⊢; try omega)).trans ((o83 j (by simp at hj ⊢; try omega)).trans ((o61 j (by simp at hj ⊢; try omega)).trans (rfl))))), xx, ⟨by omega, by omega, by omega, by omega, by omega, by omega, by omega⟩⟩ | exact ⟨hB, (fun b hb => (f123 b (by simp at hb ⊢; try omega)).trans ((f103 b (by simp at hb ⊢; try omega)).trans ((f83 b (by simp at hb ⊢; try omega)).trans ((f61 b (by simp at hb ⊢; try omega)).trans (rfl))))), (fun j hj => (o123 j (by simp at hj ⊢; try omega)).trans ((o103 j (by simp at hj ⊢; try omega)).trans ((o83 j (by simp at hj ⊢; try omega)).trans ((o61 j (by simp at hj ⊢; try omega)).trans (rfl))))), pe_ME_g hM0 (by omega) (by omega) (by omega) ⟨by omega, by rw [show σ123 29 2 = σ 29 2 by omega]; exact hbg⟩ (by omega) ((f123 30 (by decide)).trans ((f103 30 (by decide)).trans ((f83 30 (by decide)).trans ((f61 30 (by decide)).trans (rfl))))) ((f123 31 (by decide)).trans ((f103 31 (by decide)).trans ((f83 31 (by decide)).trans ((f61 31 (by decide)).trans (rfl))))) ((f123 36 (by decide)).trans ((f103 36 (by decide)).trans ((f83 36 (by decide)).trans ((f61 36 (by decide)).trans (rfl))))) ((f123 32 (by decide)).trans ((f103 32 (by decide)).trans ((f83 32 (by decide)).trans ((f61 32 (by decide)).trans (rfl))))) ((f123 33 (by decide)).trans ((f103 33 (by decide)).trans ((f83 33 (by decide)).trans ((f61 33 (by decide)).trans (rfl))))) ((f123 34 (by decide)).trans ((f103 34 (by decide)).trans ((f83 34 (by decide)).trans ((f61 34 (by decide)).trans (rfl))))) ((f123 35 (by decide)).trans ((f103 35 (by decide)).trans ((f83 35 (by decide)).trans ((f61 35 (by decide)).trans (rfl))))), ⟨by omega, by omega, by omega, by omega, by omega, by omega, by omega⟩⟩
                · skip
                  refine pe_sipush d_M_plain_114 ?_
                  refine pe_goto (t := 123) d_M_plain_117 ?_
                  refine pe_putiT f_M_193 g_11_18 d_M_plain_123 rfl rfl 18 rfl hB (by first | exact hB _ _ | exact hB0 _ _ | exact hBt _ _ | exact ⟨by omega, by omega⟩) (fun σ123 hB e123 o123 f123 => ?_)
                  try have u123_0 : σ123 29 1 = σ103 29 1 := by first | exact o123 1 (by decide) | exact congrFun (f123 29 (by decide)) 1
                  try have u123_1 : σ123 29 2 = σ103 29 2 := by first | exact o123 2 (by decide) | exact congrFun (f123 29 (by decide)) 2
                  try have u123_2 : σ123 29 3 = σ103 29 3 := by first | exact o123 3 (by decide) | exact congrFun (f123 29 (by decide)) 3
                  try have u123_3 : σ123 29 5 = σ103 29 5 := by first | exact o123 5 (by decide) | exact congrFun (f123 29 (by decide)) 5
                  try have u123_4 : σ123 29 7 = σ103 29 7 := by first | exact o123 7 (by decide) | exact congrFun (f123 29 (by decide)) 7
                  try have u123_5 : σ123 29 21 = σ103 29 21 := by first | exact o123 21 (by decide) | exact congrFun (f123 29 (by decide)) 21
                  try have u123_6 : σ123 29 26 = σ103 29 26 := by first | exact o123 26 (by decide) | exact congrFun (f123 29 (by decide)) 26
                  try have u123_7 : σ123 29 14 = σ103 29 14 := by first | exact o123 14 (by decide) | exact congrFun (f123 29 (by decide)) 14
                  try have u123_8 : σ123 29 15 = σ103 29 15 := by first | exact o123 15 (by decide) | exact congrFun (f123 29 (by decide)) 15
                  try have u123_9 : σ123 29 16 = σ103 29 16 := by first | exact o123 16 (by decide) | exact congrFun (f123 29 (by decide)) 16
                  try have u123_10 : σ123 29 17 = σ103 29 17 := by first | exact o123 17 (by decide) | exact congrFun (f123 29 (by decide)) 17
                  try have u123_11 : σ123 29 18 = σ103 29 18 := by first | exact o123 18 (by decide) | exact congrFun (f123 29 (by decide)) 18
                  refine pe_goto (t := 151) d_M_plain_126 ?_
                  refine pe_rv d_M_plain_151 ?_
                  first | exact ⟨hB, (fun b hb => (f123 b (by simp at hb ⊢; try omega)).trans ((f103 b (by simp at hb ⊢; try omega)).trans ((f83 b (by simp at hb ⊢; try omega)).trans ((f61 b (by simp at hb ⊢; try omega)).trans (rfl))))), (fun j hj => (o123 j (by simp at hj ⊢; try omega)).trans ((o103 j (by simp at hj ⊢; try omega)).trans ((o83 j (by simp at hj ⊢; try omega)).trans ((o61 j (by simp at hj ⊢; try omega)).trans (rfl))))), xx, ⟨by omega, by omega, by omega, by omega, by omega, by omega, by omega⟩⟩ | exact ⟨hB, (fun b hb => (f123 b (by simp at hb ⊢; try omega)).trans ((f103 b (by simp at hb ⊢; try omega)).trans ((f83 b (by simp at hb ⊢; try omega)).trans ((f61 b (by simp at hb ⊢; try omega)).trans (rfl))))), (fun j hj => (o123 j (by simp at hj ⊢; try omega)).trans ((o103 j (by simp at hj ⊢; try omega)).trans ((o83 j (by simp at hj ⊢; try omega)).trans ((o61 j (by simp at hj ⊢; try omega)).trans (rfl))))), pe_ME_g hM0 (by omega) (by omega) (by omega) ⟨by omega, by rw [show σ123 29 2 = σ 29 2 by omega]; exact hbg⟩ (by omega) ((f123 30 (by decide)).trans ((f103 30 (by decide)).trans ((f83 30 (by decide)).trans ((f61 30 (by decide)).trans (rfl))))) ((f123 31 (by decide)).trans ((f103 31 (by decide)).trans ((f83 31 (by decide)).trans ((f61 31 (by decide)).trans (rfl))))) ((f123 36 (by decide)).trans ((f103 36 (by decide)).trans ((f83 36 (by decide)).trans ((f61 36 (by decide)).trans (rfl))))) ((f123 32 (by decide)).trans ((f103 32 (by decide)).trans ((f83 32 (by decide)).trans ((f61 32 (by decide)).trans (rfl))))) ((f123 33 (by decide)).trans ((f103 33 (by decide)).trans ((f83 33 (by decide)).trans ((f61 33 (by decide)).trans (rfl))))) ((f123 34 (by decide)).trans ((f103 34 (by decide)).trans ((f83 34 (by decide)).trans ((f61 34 (by decide)).trans (rfl))))) ((f123 35 (by decide)).trans ((f103 35 (by decide)).trans ((f83 35 (by decide)).trans ((f61 35 (by decide)).trans (rfl))))), ⟨by omega, by omega, by omega, by omega, by omega, by omega, by omega⟩⟩
          · skip
            refine pe_iconst d_M_plain_56 ?_
            refine pe_goto (t := 61) d_M_plain_57 ?_
            refine pe_putiT f_M_184 g_11_15 d_M_plain_61 rfl rfl 15 rfl hB (by first | exact hB _ _ | exact hB0 _ _ | exact hBt _ _ | exact ⟨by omega, by omega⟩) (fun σ61 hB e61 o61 f61 => ?_)
            try have u61_0 : σ61 29 1 = σ 29 1 := by first | exact o61 1 (by decide) | exact congrFun (f61 29 (by decide)) 1
            try have u61_1 : σ61 29 2 = σ 29 2 := by first | exact o61 2 (by decide) | exact congrFun (f61 29 (by decide)) 2
            try have u61_2 : σ61 29 3 = σ 29 3 := by first | exact o61 3 (by decide) | exact congrFun (f61 29 (by decide)) 3
            try have u61_3 : σ61 29 5 = σ 29 5 := by first | exact o61 5 (by decide) | exact congrFun (f61 29 (by decide)) 5
            try have u61_4 : σ61 29 7 = σ 29 7 := by first | exact o61 7 (by decide) | exact congrFun (f61 29 (by decide)) 7
            try have u61_5 : σ61 29 21 = σ 29 21 := by first | exact o61 21 (by decide) | exact congrFun (f61 29 (by decide)) 21
            try have u61_6 : σ61 29 26 = σ 29 26 := by first | exact o61 26 (by decide) | exact congrFun (f61 29 (by decide)) 26
            try have u61_7 : σ61 29 14 = σ 29 14 := by first | exact o61 14 (by decide) | exact congrFun (f61 29 (by decide)) 14
            try have u61_8 : σ61 29 15 = σ 29 15 := by first | exact o61 15 (by decide) | exact congrFun (f61 29 (by decide)) 15
            try have u61_9 : σ61 29 16 = σ 29 16 := by first | exact o61 16 (by decide) | exact congrFun (f61 29 (by decide)) 16
            try have u61_10 : σ61 29 17 = σ 29 17 := by first | exact o61 17 (by decide) | exact congrFun (f61 29 (by decide)) 17
            try have u61_11 : σ61 29 18 = σ 29 18 := by first | exact o61 18 (by decide) | exact congrFun (f61 29 (by decide)) 18
            refine pe_aload_n d_M_plain_64 rfl ?_
            refine pe_iload_n d_M_plain_65 rfl ?_
            refine pe_sipush d_M_plain_66 ?_
            refine pe_icmp_ge (t := 79) d_M_plain_69 (by first | exact hB _ _ | exact hB0 _ _ | exact hBt _ _ | exact ⟨by omega, by omega⟩) (by first | exact hB _ _ | exact hB0 _ _ | exact hBt _ _ | exact ⟨by omega, by omega⟩) (fun h69 => ?_) (fun h69 => ?_)
            · skip
              refine pe_iload_n d_M_plain_79 rfl ?_
              refine pe_bipush d_M_plain_80 ?_
              refine pe_iand d_M_plain_82 (pe_and 4 16 (by omega) (by omega)) ?_
              refine pe_putiT f_M_187 g_11_16 d_M_plain_83 rfl rfl 16 rfl hB (by first | exact hB _ _ | exact hB0 _ _ | exact hBt _ _ | exact ⟨by omega, by omega⟩) (fun σ83 hB e83 o83 f83 => ?_)
              try have u83_0 : σ83 29 1 = σ61 29 1 := by first | exact o83 1 (by decide) | exact congrFun (f83 29 (by decide)) 1
              try have u83_1 : σ83 29 2 = σ61 29 2 := by first | exact o83 2 (by decide) | exact congrFun (f83 29 (by decide)) 2
              try have u83_2 : σ83 29 3 = σ61 29 3 := by first | exact o83 3 (by decide) | exact congrFun (f83 29 (by decide)) 3
              try have u83_3 : σ83 29 5 = σ61 29 5 := by first | exact o83 5 (by decide) | exact congrFun (f83 29 (by decide)) 5
              try have u83_4 : σ83 29 7 = σ61 29 7 := by first | exact o83 7 (by decide) | exact congrFun (f83 29 (by decide)) 7
              try have u83_5 : σ83 29 21 = σ61 29 21 := by first | exact o83 21 (by decide) | exact congrFun (f83 29 (by decide)) 21
              try have u83_6 : σ83 29 26 = σ61 29 26 := by first | exact o83 26 (by decide) | exact congrFun (f83 29 (by decide)) 26
              try have u83_7 : σ83 29 14 = σ61 29 14 := by first | exact o83 14 (by decide) | exact congrFun (f83 29 (by decide)) 14
              try have u83_8 : σ83 29 15 = σ61 29 15 := by first | exact o83 15 (by decide) | exact congrFun (f83 29 (by decide)) 15
              try have u83_9 : σ83 29 16 = σ61 29 16 := by first | exact o83 16 (by decide) | exact congrFun (f83 29 (by decide)) 16
              try have u83_10 : σ83 29 17 = σ61 29 17 := by first | exact o83 17 (by decide) | exact congrFun (f83 29 (by decide)) 17
              try have u83_11 : σ83 29 18 = σ61 29 18 := by first | exact o83 18 (by decide) | exact congrFun (f83 29 (by decide)) 18
              refine pe_aload_n d_M_plain_86 rfl ?_
              refine pe_iload_n d_M_plain_87 rfl ?_
              refine pe_sipush d_M_plain_88 ?_
              refine pe_icmp_ne (t := 100) d_M_plain_91 (by first | exact hB _ _ | exact hB0 _ _ | exact hBt _ _ | exact ⟨by omega, by omega⟩) (by first | exact hB _ _ | exact hB0 _ _ | exact hBt _ _ | exact ⟨by omega, by omega⟩) (fun h91 => ?_) (fun h91 => ?_)
              · skip
                refine pe_sipush d_M_plain_100 ?_
                refine pe_putiT f_M_190 g_11_17 d_M_plain_103 rfl rfl 17 rfl hB (by first | exact hB _ _ | exact hB0 _ _ | exact hBt _ _ | exact ⟨by omega, by omega⟩) (fun σ103 hB e103 o103 f103 => ?_)
                try have u103_0 : σ103 29 1 = σ83 29 1 := by first | exact o103 1 (by decide) | exact congrFun (f103 29 (by decide)) 1
                try have u103_1 : σ103 29 2 = σ83 29 2 := by first | exact o103 2 (by decide) | exact congrFun (f103 29 (by decide)) 2
                try have u103_2 : σ103 29 3 = σ83 29 3 := by first | exact o103 3 (by decide) | exact congrFun (f103 29 (by decide)) 3
                try have u103_3 : σ103 29 5 = σ83 29 5 := by first | exact o103 5 (by decide) | exact congrFun (f103 29 (by decide)) 5
                try have u103_4 : σ103 29 7 = σ83 29 7 := by first | exact o103 7 (by decide) | exact congrFun (f103 29 (by decide)) 7
                try have u103_5 : σ103 29 21 = σ83 29 21 := by first | exact o103 21 (by decide) | exact congrFun (f103 29 (by decide)) 21
                try have u103_6 : σ103 29 26 = σ83 29 26 := by first | exact o103 26 (by decide) | exact congrFun (f103 29 (by decide)) 26
                try have u103_7 : σ103 29 14 = σ83 29 14 := by first | exact o103 14 (by decide) | exact congrFun (f103 29 (by decide)) 14
                try have u103_8 : σ103 29 15 = σ83 29 15 := by first | exact o103 15 (by decide) | exact congrFun (f103 29 (by decide)) 15
                try have u103_9 : σ103 29 16 = σ83 29 16 := by first | exact o103 16 (by decide) | exact congrFun (f103 29 (by decide)) 16
                try have u103_10 : σ103 29 17 = σ83 29 17 := by first | exact o103 17 (by decide) | exact congrFun (f103 29 (by decide)) 17
                try have u103_11 : σ103 29 18 = σ83 29 18 := by first | exact o103 18 (by decide) | exact congrFun (f103 29 (by decide)) 18
                refine pe_aload_n d_M_plain_106 rfl ?_
                refine pe_iload_n d_M_plain_107 rfl ?_
                refine pe_sipush d_M_plain_108 ?_
                refine pe_icmp_ne (t := 120) d_M_plain_111 (by first | exact hB _ _ | exact hB0 _ _ | exact hBt _ _ | exact ⟨by omega, by omega⟩) (by first | exact hB _ _ | exact hB0 _ _ | exact hBt _ _ | exact ⟨by omega, by omega⟩) (fun h111 => ?_) (fun h111 => ?_)
                · skip
                  refine pe_sipush d_M_plain_120 ?_
                  refine pe_putiT f_M_193 g_11_18 d_M_plain_123 rfl rfl 18 rfl hB (by first | exact hB _ _ | exact hB0 _ _ | exact hBt _ _ | exact ⟨by omega, by omega⟩) (fun σ123 hB e123 o123 f123 => ?_)
                  try have u123_0 : σ123 29 1 = σ103 29 1 := by first | exact o123 1 (by decide) | exact congrFun (f123 29 (by decide)) 1
                  try have u123_1 : σ123 29 2 = σ103 29 2 := by first | exact o123 2 (by decide) | exact congrFun (f123 29 (by decide)) 2
                  try have u123_2 : σ123 29 3 = σ103 29 3 := by first | exact o123 3 (by decide) | exact congrFun (f123 29 (by decide)) 3
                  try have u123_3 : σ123 29 5 = σ103 29 5 := by first | exact o123 5 (by decide) | exact congrFun (f123 29 (by decide)) 5
                  try have u123_4 : σ123 29 7 = σ103 29 7 := by first | exact o123 7 (by decide) | exact congrFun (f123 29 (by decide)) 7
                  try have u123_5 : σ123 29 21 = σ103 29 21 := by first | exact o123 21 (by decide) | exact congrFun (f123 29 (by decide)) 21
                  try have u123_6 : σ123 29 26 = σ103 29 26 := by first | exact o123 26 (by decide) | exact congrFun (f123 29 (by decide)) 26
                  try have u123_7 : σ123 29 14 = σ103 29 14 := by first | exact o123 14 (by decide) | exact congrFun (f123 29 (by decide)) 14
                  try have u123_8 : σ123 29 15 = σ103 29 15 := by first | exact o123 15 (by decide) | exact congrFun (f123 29 (by decide)) 15
                  try have u123_9 : σ123 29 16 = σ103 29 16 := by first | exact o123 16 (by decide) | exact congrFun (f123 29 (by decide)) 16
                  try have u123_10 : σ123 29 17 = σ103 29 17 := by first | exact o123 17 (by decide) | exact congrFun (f123 29 (by decide)) 17
                  try have u123_11 : σ123 29 18 = σ103 29 18 := by first | exact o123 18 (by decide) | exact congrFun (f123 29 (by decide)) 18
                  refine pe_goto (t := 151) d_M_plain_126 ?_
                  refine pe_rv d_M_plain_151 ?_
                  first | exact ⟨hB, (fun b hb => (f123 b (by simp at hb ⊢; try omega)).trans ((f103 b (by simp at hb ⊢; try omega)).trans ((f83 b (by simp at hb ⊢; try omega)).trans ((f61 b (by simp at hb ⊢; try omega)).trans (rfl))))), (fun j hj => (o123 j (by simp at hj ⊢; try omega)).trans ((o103 j (by simp at hj ⊢; try omega)).trans ((o83 j (by simp at hj ⊢; try omega)).trans ((o61 j (by simp at hj ⊢; try omega)).trans (rfl))))), xx, ⟨by omega, by omega, by omega, by omega, by omega, by omega, by omega⟩⟩ | exact ⟨hB, (fun b hb => (f123 b (by simp at hb ⊢; try omega)).trans ((f103 b (by simp at hb ⊢; try omega)).trans ((f83 b (by simp at hb ⊢; try omega)).trans ((f61 b (by simp at hb ⊢; try omega)).trans (rfl))))), (fun j hj => (o123 j (by simp at hj ⊢; try omega)).trans ((o103 j (by simp at hj ⊢; try omega)).trans ((o83 j (by simp at hj ⊢; try omega)).trans ((o61 j (by simp at hj ⊢; try omega)).trans (rfl))))), pe_ME_g hM0 (by omega) (by omega) (by omega) ⟨by omega, by rw [show σ123 29 2 = σ 29 2 by omega]; exact hbg⟩ (by omega) ((f123 30 (by decide)).trans ((f103 30 (by decide)).trans ((f83 30 (by decide)).trans ((f61 30 (by decide)).trans (rfl))))) ((f123 31 (by decide)).trans ((f103 31 (by decide)).trans ((f83 31 (by decide)).trans ((f61 31 (by decide)).trans (rfl))))) ((f123 36 (by decide)).trans ((f103 36 (by decide)).trans ((f83 36 (by decide)).trans ((f61 36 (by decide)).trans (rfl))))) ((f123 32 (by decide)).trans ((f103 32 (by decide)).trans ((f83 32 (by decide)).trans ((f61 32 (by decide)).trans (rfl))))) ((f123 33 (by decide)).trans ((f103 33 (by decide)).trans ((f83 33 (by decide)).trans ((f61 33 (by decide)).trans (rfl))))) ((f123 34 (by decide)).trans ((f103 34 (by decide)).trans ((f83 34 (by decide)).trans ((f61 34 (by decide)).trans (rfl))))) ((f123 35 (by decide)).trans ((f103 35 (by decide)).trans ((f83 35 (by decide)).trans ((f61 35 (by decide)).trans (rfl))))), ⟨by omega, by omega, by omega, by omega, by omega, by omega, by omega⟩⟩
                · skip
                  refine pe_sipush d_M_plain_114 ?_
                  refine pe_goto (t := 123) d_M_plain_117 ?_
                  refine pe_putiT f_M_193 g_11_18 d_M_plain_123 rfl rfl 18 rfl hB (by first | exact hB _ _ | exact hB0 _ _ | exact hBt _ _ | exact ⟨by omega, by omega⟩) (fun σ123 hB e123 o123 f123 => ?_)
                  try have u123_0 : σ123 29 1 = σ103 29 1 := by first | exact o123 1 (by decide) | exact congrFun (f123 29 (by decide)) 1
                  try have u123_1 : σ123 29 2 = σ103 29 2 := by first | exact o123 2 (by decide) | exact congrFun (f123 29 (by decide)) 2
                  try have u123_2 : σ123 29 3 = σ103 29 3 := by first | exact o123 3 (by decide) | exact congrFun (f123 29 (by decide)) 3
                  try have u123_3 : σ123 29 5 = σ103 29 5 := by first | exact o123 5 (by decide) | exact congrFun (f123 29 (by decide)) 5
                  try have u123_4 : σ123 29 7 = σ103 29 7 := by first | exact o123 7 (by decide) | exact congrFun (f123 29 (by decide)) 7
                  try have u123_5 : σ123 29 21 = σ103 29 21 := by first | exact o123 21 (by decide) | exact congrFun (f123 29 (by decide)) 21
                  try have u123_6 : σ123 29 26 = σ103 29 26 := by first | exact o123 26 (by decide) | exact congrFun (f123 29 (by decide)) 26
                  try have u123_7 : σ123 29 14 = σ103 29 14 := by first | exact o123 14 (by decide) | exact congrFun (f123 29 (by decide)) 14
                  try have u123_8 : σ123 29 15 = σ103 29 15 := by first | exact o123 15 (by decide) | exact congrFun (f123 29 (by decide)) 15
                  try have u123_9 : σ123 29 16 = σ103 29 16 := by first | exact o123 16 (by decide) | exact congrFun (f123 29 (by decide)) 16
                  try have u123_10 : σ123 29 17 = σ103 29 17 := by first | exact o123 17 (by decide) | exact congrFun (f123 29 (by decide)) 17
                  try have u123_11 : σ123 29 18 = σ103 29 18 := by first | exact o123 18 (by decide) | exact congrFun (f123 29 (by decide)) 18
                  refine pe_goto (t := 151) d_M_plain_126 ?_
                  refine pe_rv d_M_plain_151 ?_
                  first | exact ⟨hB, (fun b hb => (f123 b (by simp at hb ⊢; try omega)).trans ((f103 b (by simp at hb ⊢; try omega)).trans ((f83 b (by simp at hb ⊢; try omega)).trans ((f61 b (by simp at hb ⊢; try omega)).trans (rfl))))), (fun j hj => (o123 j (by simp at hj ⊢; try omega)).trans ((o103 j (by simp at hj ⊢; try omega)).trans ((o83 j (by simp at hj ⊢; try omega)).trans ((o61 j (by simp at hj ⊢; try omega)).trans (rfl))))), xx, ⟨by omega, by omega, by omega, by omega, by omega, by omega, by omega⟩⟩ | exact ⟨hB, (fun b hb => (f123 b (by simp at hb ⊢; try omega)).trans ((f103 b (by simp at hb ⊢; try omega)).trans ((f83 b (by simp at hb ⊢; try omega)).trans ((f61 b (by simp at hb ⊢; try omega)).trans (rfl))))), (fun j hj => (o123 j (by simp at hj ⊢; try omega)).trans ((o103 j (by simp at hj ⊢; try omega)).trans ((o83 j (by simp at hj ⊢; try omega)).trans ((o61 j (by simp at hj ⊢; try omega)).trans (rfl))))), pe_ME_g hM0 (by omega) (by omega) (by omega) ⟨by omega, by rw [show σ123 29 2 = σ 29 2 by omega]; exact hbg⟩ (by omega) ((f123 30 (by decide)).trans ((f103 30 (by decide)).trans ((f83 30 (by decide)).trans ((f61 30 (by decide)).trans (rfl))))) ((f123 31 (by decide)).trans ((f103 31 (by decide)).trans ((f83 31 (by decide)).trans ((f61 31 (by decide)).trans (rfl))))) ((f123 36 (by decide)).trans ((f103 36 (by decide)).trans ((f83 36 (by decide)).trans ((f61 36 (by decide)).trans (rfl))))) ((f123 32 (by decide)).trans ((f103 32 (by decide)).trans ((f83 32 (by decide)).trans ((f61 32 (by decide)).trans (rfl))))) ((f123 33 (by decide)).trans ((f103 33 (by decide)).trans ((f83 33 (by decide)).trans ((f61 33 (by decide)).trans (rfl))))) ((f123 34 (by decide)).trans ((f103 34 (by decide)).trans ((f83 34 (by decide)).trans ((f61 34 (by decide)).trans (rfl))))) ((f123 35 (by decide)).trans ((f103 35 (by decide)).trans ((f83 35 (by decide)).trans ((f61 35 (by decide)).trans (rfl))))), ⟨by omega, by omega, by omega, by omega, by omega, by omega, by omega⟩⟩
              · skip
                refine pe_sipush d_M_plain_94 ?_
                refine pe_goto (t := 103) d_M_plain_97 ?_
                refine pe_putiT f_M_190 g_11_17 d_M_plain_103 rfl rfl 17 rfl hB (by first | exact hB _ _ | exact hB0 _ _ | exact hBt _ _ | exact ⟨by omega, by omega⟩) (fun σ103 hB e103 o103 f103 => ?_)
                try have u103_0 : σ103 29 1 = σ83 29 1 := by first | exact o103 1 (by decide) | exact congrFun (f103 29 (by decide)) 1
                try have u103_1 : σ103 29 2 = σ83 29 2 := by first | exact o103 2 (by decide) | exact congrFun (f103 29 (by decide)) 2
                try have u103_2 : σ103 29 3 = σ83 29 3 := by first | exact o103 3 (by decide) | exact congrFun (f103 29 (by decide)) 3
                try have u103_3 : σ103 29 5 = σ83 29 5 := by first | exact o103 5 (by decide) | exact congrFun (f103 29 (by decide)) 5
                try have u103_4 : σ103 29 7 = σ83 29 7 := by first | exact o103 7 (by decide) | exact congrFun (f103 29 (by decide)) 7
                try have u103_5 : σ103 29 21 = σ83 29 21 := by first | exact o103 21 (by decide) | exact congrFun (f103 29 (by decide)) 21
                try have u103_6 : σ103 29 26 = σ83 29 26 := by first | exact o103 26 (by decide) | exact congrFun (f103 29 (by decide)) 26
                try have u103_7 : σ103 29 14 = σ83 29 14 := by first | exact o103 14 (by decide) | exact congrFun (f103 29 (by decide)) 14
                try have u103_8 : σ103 29 15 = σ83 29 15 := by first | exact o103 15 (by decide) | exact congrFun (f103 29 (by decide)) 15
                try have u103_9 : σ103 29 16 = σ83 29 16 := by first | exact o103 16 (by decide) | exact congrFun (f103 29 (by decide)) 16
                try have u103_10 : σ103 29 17 = σ83 29 17 := by first | exact o103 17 (by decide) | exact congrFun (f103 29 (by decide)) 17
                try have u103_11 : σ103 29 18 = σ83 29 18 := by first | exact o103 18 (by decide) | exact congrFun (f103 29 (by decide)) 18
                refine pe_aload_n d_M_plain_106 rfl ?_
                refine pe_iload_n d_M_plain_107 rfl ?_
                refine pe_sipush d_M_plain_108 ?_
                refine pe_icmp_ne (t := 120) d_M_plain_111 (by first | exact hB _ _ | exact hB0 _ _ | exact hBt _ _ | exact ⟨by omega, by omega⟩) (by first | exact hB _ _ | exact hB0 _ _ | exact hBt _ _ | exact ⟨by omega, by omega⟩) (fun h111 => ?_) (fun h111 => ?_)
                · skip
                  refine pe_sipush d_M_plain_120 ?_
                  refine pe_putiT f_M_193 g_11_18 d_M_plain_123 rfl rfl 18 rfl hB (by first | exact hB _ _ | exact hB0 _ _ | exact hBt _ _ | exact ⟨by omega, by omega⟩) (fun σ123 hB e123 o123 f123 => ?_)
                  try have u123_0 : σ123 29 1 = σ103 29 1 := by first | exact o123 1 (by decide) | exact congrFun (f123 29 (by decide)) 1
                  try have u123_1 : σ123 29 2 = σ103 29 2 := by first | exact o123 2 (by decide) | exact congrFun (f123 29 (by decide)) 2
                  try have u123_2 : σ123 29 3 = σ103 29 3 := by first | exact o123 3 (by decide) | exact congrFun (f123 29 (by decide)) 3
                  try have u123_3 : σ123 29 5 = σ103 29 5 := by first | exact o123 5 (by decide) | exact congrFun (f123 29 (by decide)) 5
                  try have u123_4 : σ123 29 7 = σ103 29 7 := by first | exact o123 7 (by decide) | exact congrFun (f123 29 (by decide)) 7
                  try have u123_5 : σ123 29 21 = σ103 29 21 := by first | exact o123 21 (by decide) | exact congrFun (f123 29 (by decide)) 21
                  try have u123_6 : σ123 29 26 = σ103 29 26 := by first | exact o123 26 (by decide) | exact congrFun (f123 29 (by decide)) 26
                  try have u123_7 : σ123 29 14 = σ103 29 14 := by first | exact o123 14 (by decide) | exact congrFun (f123 29 (by decide)) 14
                  try have u123_8 : σ123 29 15 = σ103 29 15 := by first | exact o123 15 (by decide) | exact congrFun (f123 29 (by decide)) 15
                  try have u123_9 : σ123 29 16 = σ103 29 16 := by first | exact o123 16 (by decide) | exact congrFun (f123 29 (by decide)) 16
                  try have u123_10 : σ123 29 17 = σ103 29 17 := by first | exact o123 17 (by decide) | exact congrFun (f123 29 (by decide)) 17
                  try have u123_11 : σ123 29 18 = σ103 29 18 := by first | exact o123 18 (by decide) | exact congrFun (f123 29 (by decide)) 18
                  refine pe_goto (t := 151) d_M_plain_126 ?_
                  refine pe_rv d_M_plain_151 ?_
                  first | exact ⟨hB, (fun b hb => (f123 b (by simp at hb ⊢; try omega)).trans ((f103 b (by simp at hb ⊢; try omega)).trans ((f83 b (by simp at hb ⊢; try omega)).trans ((f61 b (by simp at hb ⊢; try omega)).trans (rfl))))), (fun j hj => (o123 j (by simp at hj ⊢; try omega)).trans ((o103 j (by simp at hj ⊢; try omega)).trans ((o83 j (by simp at hj ⊢; try omega)).trans ((o61 j (by simp at hj ⊢; try omega)).trans (rfl))))), xx, ⟨by omega, by omega, by omega, by omega, by omega, by omega, by omega⟩⟩ | exact ⟨hB, (fun b hb => (f123 b (by simp at hb ⊢; try omega)).trans ((f103 b (by simp at hb ⊢; try omega)).trans ((f83 b (by simp at hb ⊢; try omega)).trans ((f61 b (by simp at hb ⊢; try omega)).trans (rfl))))), (fun j hj => (o123 j (by simp at hj ⊢; try omega)).trans ((o103 j (by simp at hj ⊢; try omega)).trans ((o83 j (by simp at hj ⊢; try omega)).trans ((o61 j (by simp at hj ⊢; try omega)).trans (rfl))))), pe_ME_g hM0 (by omega) (by omega) (by omega) ⟨by omega, by rw [show σ123 29 2 = σ 29 2 by omega]; exact hbg⟩ (by omega) ((f123 30 (by decide)).trans ((f103 30 (by decide)).trans ((f83 30 (by decide)).trans ((f61 30 (by decide)).trans (rfl))))) ((f123 31 (by decide)).trans ((f103 31 (by decide)).trans ((f83 31 (by decide)).trans ((f61 31 (by decide)).trans (rfl))))) ((f123 36 (by decide)).trans ((f103 36 (by decide)).trans ((f83 36 (by decide)).trans ((f61 36 (by decide)).trans (rfl))))) ((f123 32 (by decide)).trans ((f103 32 (by decide)).trans ((f83 32 (by decide)).trans ((f61 32 (by decide)).trans (rfl))))) ((f123 33 (by decide)).trans ((f103 33 (by decide)).trans ((f83 33 (by decide)).trans ((f61 33 (by decide)).trans (rfl))))) ((f123 34 (by decide)).trans ((f103 34 (by decide)).trans ((f83 34 (by decide)).trans ((f61 34 (by decide)).trans (rfl))))) ((f123 35 (by decide)).trans ((f103 35 (by decide)).trans ((f83 35 (by decide)).trans ((f61 35 (by decide)).trans (rfl))))), ⟨by omega, by omega, by omega, by omega, by omega, by omega, by omega⟩⟩
                · skip
                  refine pe_sipush d_M_plain_114 ?_
                  refine pe_goto (t := 123) d_M_plain_117 ?_
                  refine pe_putiT f_M_193 g_11_18 d_M_plain_123 rfl rfl 18 rfl hB (by first | exact hB _ _ | exact hB0 _ _ | exact hBt _ _ | exact ⟨by omega, by omega⟩) (fun σ123 hB e123 o123 f123 => ?_)
                  try have u123_0 : σ123 29 1 = σ103 29 1 := by first | exact o123 1 (by decide) | exact congrFun (f123 29 (by decide)) 1
                  try have u123_1 : σ123 29 2 = σ103 29 2 := by first | exact o123 2 (by decide) | exact congrFun (f123 29 (by decide)) 2
                  try have u123_2 : σ123 29 3 = σ103 29 3 := by first | exact o123 3 (by decide) | exact congrFun (f123 29 (by decide)) 3
                  try have u123_3 : σ123 29 5 = σ103 29 5 := by first | exact o123 5 (by decide) | exact congrFun (f123 29 (by decide)) 5
                  try have u123_4 : σ123 29 7 = σ103 29 7 := by first | exact o123 7 (by decide) | exact congrFun (f123 29 (by decide)) 7
                  try have u123_5 : σ123 29 21 = σ103 29 21 := by first | exact o123 21 (by decide) | exact congrFun (f123 29 (by decide)) 21
                  try have u123_6 : σ123 29 26 = σ103 29 26 := by first | exact o123 26 (by decide) | exact congrFun (f123 29 (by decide)) 26
                  try have u123_7 : σ123 29 14 = σ103 29 14 := by first | exact o123 14 (by decide) | exact congrFun (f123 29 (by decide)) 14
                  try have u123_8 : σ123 29 15 = σ103 29 15 := by first | exact o123 15 (by decide) | exact congrFun (f123 29 (by decide)) 15
                  try have u123_9 : σ123 29 16 = σ103 29 16 := by first | exact o123 16 (by decide) | exact congrFun (f123 29 (by decide)) 16
                  try have u123_10 : σ123 29 17 = σ103 29 17 := by first | exact o123 17 (by decide) | exact congrFun (f123 29 (by decide)) 17
                  try have u123_11 : σ123 29 18 = σ103 29 18 := by first | exact o123 18 (by decide) | exact congrFun (f123 29 (by decide)) 18
                  refine pe_goto (t := 151) d_M_plain_126 ?_
                  refine pe_rv d_M_plain_151 ?_
                  first | exact ⟨hB, (fun b hb => (f123 b (by simp at hb ⊢; try omega)).trans ((f103 b (by simp at hb ⊢; try omega)).trans ((f83 b (by simp at hb ⊢; try omega)).trans ((f61 b (by simp at hb ⊢; try omega)).trans (rfl))))), (fun j hj => (o123 j (by simp at hj ⊢; try omega)).trans ((o103 j (by simp at hj ⊢; try omega)).trans ((o83 j (by simp at hj ⊢; try omega)).trans ((o61 j (by simp at hj ⊢; try omega)).trans (rfl))))), xx, ⟨by omega, by omega, by omega, by omega, by omega, by omega, by omega⟩⟩ | exact ⟨hB, (fun b hb => (f123 b (by simp at hb ⊢; try omega)).trans ((f103 b (by simp at hb ⊢; try omega)).trans ((f83 b (by simp at hb ⊢; try omega)).trans ((f61 b (by simp at hb ⊢; try omega)).trans (rfl))))), (fun j hj => (o123 j (by simp at hj ⊢; try omega)).trans ((o103 j (by simp at hj ⊢; try omega)).trans ((o83 j (by simp at hj ⊢; try omega)).trans ((o61 j (by simp at hj ⊢; try omega)).trans (rfl))))), pe_ME_g hM0 (by omega) (by omega) (by omega) ⟨by omega, by rw [show σ123 29 2 = σ 29 2 by omega]; exact hbg⟩ (by omega) ((f123 30 (by decide)).trans ((f103 30 (by decide)).trans ((f83 30 (by decide)).trans ((f61 30 (by decide)).trans (rfl))))) ((f123 31 (by decide)).trans ((f103 31 (by decide)).trans ((f83 31 (by decide)).trans ((f61 31 (by decide)).trans (rfl))))) ((f123 36 (by decide)).trans ((f103 36 (by decide)).trans ((f83 36 (by decide)).trans ((f61 36 (by decide)).trans (rfl))))) ((f123 32 (by decide)).trans ((f103 32 (by decide)).trans ((f83 32 (by decide)).trans ((f61 32 (by decide)).trans (rfl))))) ((f123 33 (by decide)).trans ((f103 33 (by decide)).trans ((f83 33 (by decide)).trans ((f61 33 (by decide)).trans (rfl))))) ((f123 34 (by decide)).trans ((f103 34 (by decide)).trans ((f83 34 (by decide)).trans ((f61 34 (by decide)).trans (rfl))))) ((f123 35 (by decide)).trans ((f103 35 (by decide)).trans ((f83 35 (by decide)).trans ((f61 35 (by decide)).trans (rfl))))), ⟨by omega, by omega, by omega, by omega, by omega, by omega, by omega⟩⟩
            · skip
              refine pe_iload_n d_M_plain_72 rfl ?_
              refine pe_bipush d_M_plain_73 ?_
              refine pe_iand d_M_plain_75 (pe_and 5 32 (by omega) (by omega)) ?_
              refine pe_goto (t := 83) d_M_plain_76 ?_
              refine pe_putiT f_M_187 g_11_16 d_M_plain_83 rfl rfl 16 rfl hB (by first | exact hB _ _ | exact hB0 _ _ | exact hBt _ _ | exact ⟨by omega, by omega⟩) (fun σ83 hB e83 o83 f83 => ?_)
              try have u83_0 : σ83 29 1 = σ61 29 1 := by first | exact o83 1 (by decide) | exact congrFun (f83 29 (by decide)) 1
              try have u83_1 : σ83 29 2 = σ61 29 2 := by first | exact o83 2 (by decide) | exact congrFun (f83 29 (by decide)) 2
              try have u83_2 : σ83 29 3 = σ61 29 3 := by first | exact o83 3 (by decide) | exact congrFun (f83 29 (by decide)) 3
              try have u83_3 : σ83 29 5 = σ61 29 5 := by first | exact o83 5 (by decide) | exact congrFun (f83 29 (by decide)) 5
              try have u83_4 : σ83 29 7 = σ61 29 7 := by first | exact o83 7 (by decide) | exact congrFun (f83 29 (by decide)) 7
              try have u83_5 : σ83 29 21 = σ61 29 21 := by first | exact o83 21 (by decide) | exact congrFun (f83 29 (by decide)) 21
              try have u83_6 : σ83 29 26 = σ61 29 26 := by first | exact o83 26 (by decide) | exact congrFun (f83 29 (by decide)) 26
              try have u83_7 : σ83 29 14 = σ61 29 14 := by first | exact o83 14 (by decide) | exact congrFun (f83 29 (by decide)) 14
              try have u83_8 : σ83 29 15 = σ61 29 15 := by first | exact o83 15 (by decide) | exact congrFun (f83 29 (by decide)) 15
              try have u83_9 : σ83 29 16 = σ61 29 16 := by first | exact o83 16 (by decide) | exact congrFun (f83 29 (by decide)) 16
              try have u83_10 : σ83 29 17 = σ61 29 17 := by first | exact o83 17 (by decide) | exact congrFun (f83 29 (by decide)) 17
              try have u83_11 : σ83 29 18 = σ61 29 18 := by first | exact o83 18 (by decide) | exact congrFun (f83 29 (by decide)) 18
              refine pe_aload_n d_M_plain_86 rfl ?_
              refine pe_iload_n d_M_plain_87 rfl ?_
              refine pe_sipush d_M_plain_88 ?_
              refine pe_icmp_ne (t := 100) d_M_plain_91 (by first | exact hB _ _ | exact hB0 _ _ | exact hBt _ _ | exact ⟨by omega, by omega⟩) (by first | exact hB _ _ | exact hB0 _ _ | exact hBt _ _ | exact ⟨by omega, by omega⟩) (fun h91 => ?_) (fun h91 => ?_)
              · skip
                refine pe_sipush d_M_plain_100 ?_
                refine pe_putiT f_M_190 g_11_17 d_M_plain_103 rfl rfl 17 rfl hB (by first | exact hB _ _ | exact hB0 _ _ | exact hBt _ _ | exact ⟨by omega, by omega⟩) (fun σ103 hB e103 o103 f103 => ?_)
                try have u103_0 : σ103 29 1 = σ83 29 1 := by first | exact o103 1 (by decide) | exact congrFun (f103 29 (by decide)) 1
                try have u103_1 : σ103 29 2 = σ83 29 2 := by first | exact o103 2 (by decide) | exact congrFun (f103 29 (by decide)) 2
                try have u103_2 : σ103 29 3 = σ83 29 3 := by first | exact o103 3 (by decide) | exact congrFun (f103 29 (by decide)) 3
                try have u103_3 : σ103 29 5 = σ83 29 5 := by first | exact o103 5 (by decide) | exact congrFun (f103 29 (by decide)) 5
                try have u103_4 : σ103 29 7 = σ83 29 7 := by first | exact o103 7 (by decide) | exact congrFun (f103 29 (by decide)) 7
                try have u103_5 : σ103 29 21 = σ83 29 21 := by first | exact o103 21 (by decide) | exact congrFun (f103 29 (by decide)) 21
                try have u103_6 : σ103 29 26 = σ83 29 26 := by first | exact o103 26 (by decide) | exact congrFun (f103 29 (by decide)) 26
                try have u103_7 : σ103 29 14 = σ83 29 14 := by first | exact o103 14 (by decide) | exact congrFun (f103 29 (by decide)) 14
                try have u103_8 : σ103 29 15 = σ83 29 15 := by first | exact o103 15 (by decide) | exact congrFun (f103 29 (by decide)) 15
                try have u103_9 : σ103 29 16 = σ83 29 16 := by first | exact o103 16 (by decide) | exact congrFun (f103 29 (by decide)) 16
                try have u103_10 : σ103 29 17 = σ83 29 17 := by first | exact o103 17 (by decide) | exact congrFun (f103 29 (by decide)) 17
                try have u103_11 : σ103 29 18 = σ83 29 18 := by first | exact o103 18 (by decide) | exact congrFun (f103 29 (by decide)) 18
                refine pe_aload_n d_M_plain_106 rfl ?_
                refine pe_iload_n d_M_plain_107 rfl ?_
                refine pe_sipush d_M_plain_108 ?_
                refine pe_icmp_ne (t := 120) d_M_plain_111 (by first | exact hB _ _ | exact hB0 _ _ | exact hBt _ _ | exact ⟨by omega, by omega⟩) (by first | exact hB _ _ | exact hB0 _ _ | exact hBt _ _ | exact ⟨by omega, by omega⟩) (fun h111 => ?_) (fun h111 => ?_)
                · skip
                  refine pe_sipush d_M_plain_120 ?_
                  refine pe_putiT f_M_193 g_11_18 d_M_plain_123 rfl rfl 18 rfl hB (by first | exact hB _ _ | exact hB0 _ _ | exact hBt _ _ | exact ⟨by omega, by omega⟩) (fun σ123 hB e123 o123 f123 => ?_)
                  try have u123_0 : σ123 29 1 = σ103 29 1 := by first | exact o123 1 (by decide) | exact congrFun (f123 29 (by decide)) 1
                  try have u123_1 : σ123 29 2 = σ103 29 2 := by first | exact o123 2 (by decide) | exact congrFun (f123 29 (by decide)) 2
                  try have u123_2 : σ123 29 3 = σ103 29 3 := by first | exact o123 3 (by decide) | exact congrFun (f123 29 (by decide)) 3
                  try have u123_3 : σ123 29 5 = σ103 29 5 := by first | exact o123 5 (by decide) | exact congrFun (f123 29 (by decide)) 5
                  try have u123_4 : σ123 29 7 = σ103 29 7 := by first | exact o123 7 (by decide) | exact congrFun (f123 29 (by decide)) 7
                  try have u123_5 : σ123 29 21 = σ103 29 21 := by first | exact o123 21 (by decide) | exact congrFun (f123 29 (by decide)) 21
                  try have u123_6 : σ123 29 26 = σ103 29 26 := by first | exact o123 26 (by decide) | exact congrFun (f123 29 (by decide)) 26
                  try have u123_7 : σ123 29 14 = σ103 29 14 := by first | exact o123 14 (by decide) | exact congrFun (f123 29 (by decide)) 14
                  try have u123_8 : σ123 29 15 = σ103 29 15 := by first | exact o123 15 (by decide) | exact congrFun (f123 29 (by decide)) 15
                  try have u123_9 : σ123 29 16 = σ103 29 16 := by first | exact o123 16 (by decide) | exact congrFun (f123 29 (by decide)) 16
                  try have u123_10 : σ123 29 17 = σ103 29 17 := by first | exact o123 17 (by decide) | exact congrFun (f123 29 (by decide)) 17
                  try have u123_11 : σ123 29 18 = σ103 29 18 := by first | exact o123 18 (by decide) | exact congrFun (f123 29 (by decide)) 18
                  refine pe_goto (t := 151) d_M_plain_126 ?_
                  refine pe_rv d_M_plain_151 ?_
                  first | exact ⟨hB, (fun b hb => (f123 b (by simp at hb ⊢; try omega)).trans ((f103 b (by simp at hb ⊢; try omega)).trans ((f83 b (by simp at hb ⊢; try omega)).trans ((f61 b (by simp at hb ⊢; try omega)).trans (rfl))))), (fun j hj => (o123 j (by simp at hj ⊢; try omega)).trans ((o103 j (by simp at hj ⊢; try omega)).trans ((o83 j (by simp at hj ⊢; try omega)).trans ((o61 j (by simp at hj ⊢; try omega)).trans (rfl))))), xx, ⟨by omega, by omega, by omega, by omega, by omega, by omega, by omega⟩⟩ | exact ⟨hB, (fun b hb => (f123 b (by simp at hb ⊢; try omega)).trans ((f103 b (by simp at hb ⊢; try omega)).trans ((f83 b (by simp at hb ⊢; try omega)).trans ((f61 b (by simp at hb ⊢; try omega)).trans (rfl))))), (fun j hj => (o123 j (by simp at hj ⊢; try omega)).trans ((o103 j (by simp at hj ⊢; try omega)).trans ((o83 j (by simp at hj ⊢; try omega)).trans ((o61 j (by simp at hj ⊢; try omega)).trans (rfl))))), pe_ME_g hM0 (by omega) (by omega) (by omega) ⟨by omega, by rw [show σ123 29 2 = σ 29 2 by omega]; exact hbg⟩ (by omega) ((f123 30 (by decide)).trans ((f103 30 (by decide)).trans ((f83 30 (by decide)).trans ((f61 30 (by decide)).trans (rfl))))) ((f123 31 (by decide)).trans ((f103 31 (by decide)).trans ((f83 31 (by decide)).trans ((f61 31 (by decide)).trans (rfl))))) ((f123 36 (by decide)).trans ((f103 36 (by decide)).trans ((f83 36 (by decide)).trans ((f61 36 (by decide)).trans (rfl))))) ((f123 32 (by decide)).trans ((f103 32 (by decide)).trans ((f83 32 (by decide)).trans ((f61 32 (by decide)).trans (rfl))))) ((f123 33 (by decide)).trans ((f103 33 (by decide)).trans ((f83 33 (by decide)).trans ((f61 33 (by decide)).trans (rfl))))) ((f123 34 (by decide)).trans ((f103 34 (by decide)).trans ((f83 34 (by decide)).trans ((f61 34 (by decide)).trans (rfl))))) ((f123 35 (by decide)).trans ((f103 35 (by decide)).trans ((f83 35 (by decide)).trans ((f61 35 (by decide)).trans (rfl))))), ⟨by omega, by omega, by omega, by omega, by omega, by omega, by omega⟩⟩
                · skip
                  refine pe_sipush d_M_plain_114 ?_
                  refine pe_goto (t := 123) d_M_plain_117 ?_
                  refine pe_putiT f_M_193 g_11_18 d_M_plain_123 rfl rfl 18 rfl hB (by first | exact hB _ _ | exact hB0 _ _ | exact hBt _ _ | exact ⟨by omega, by omega⟩) (fun σ123 hB e123 o123 f123 => ?_)
                  try have u123_0 : σ123 29 1 = σ103 29 1 := by first | exact o123 1 (by decide) | exact congrFun (f123 29 (by decide)) 1
                  try have u123_1 : σ123 29 2 = σ103 29 2 := by first | exact o123 2 (by decide) | exact congrFun (f123 29 (by decide)) 2
                  try have u123_2 : σ123 29 3 = σ103 29 3 := by first | exact o123 3 (by decide) | exact congrFun (f123 29 (by decide)) 3
                  try have u123_3 : σ123 29 5 = σ103 29 5 := by first | exact o123 5 (by decide) | exact congrFun (f123 29 (by decide)) 5
                  try have u123_4 : σ123 29 7 = σ103 29 7 := by first | exact o123 7 (by decide) | exact congrFun (f123 29 (by decide)) 7
                  try have u123_5 : σ123 29 21 = σ103 29 21 := by first | exact o123 21 (by decide) | exact congrFun (f123 29 (by decide)) 21
                  try have u123_6 : σ123 29 26 = σ103 29 26 := by first | exact o123 26 (by decide) | exact congrFun (f123 29 (by decide)) 26
                  try have u123_7 : σ123 29 14 = σ103 29 14 := by first | exact o123 14 (by decide) | exact congrFun (f123 29 (by decide)) 14
                  try have u123_8 : σ123 29 15 = σ103 29 15 := by first | exact o123 15 (by decide) | exact congrFun (f123 29 (by decide)) 15
                  try have u123_9 : σ123 29 16 = σ103 29 16 := by first | exact o123 16 (by decide) | exact congrFun (f123 29 (by decide)) 16
                  try have u123_10 : σ123 29 17 = σ103 29 17 := by first | exact o123 17 (by decide) | exact congrFun (f123 29 (by decide)) 17
                  try have u123_11 : σ123 29 18 = σ103 29 18 := by first | exact o123 18 (by decide) | exact congrFun (f123 29 (by decide)) 18
                  refine pe_goto (t := 151) d_M_plain_126 ?_
                  refine pe_rv d_M_plain_151 ?_
                  first | exact ⟨hB, (fun b hb => (f123 b (by simp at hb ⊢; try omega)).trans ((f103 b (by simp at hb ⊢; try omega)).trans ((f83 b (by simp at hb ⊢; try omega)).trans ((f61 b (by simp at hb ⊢; try omega)).trans (rfl))))), (fun j hj => (o123 j (by simp at hj ⊢; try omega)).trans ((o103 j (by simp at hj ⊢; try omega)).trans ((o83 j (by simp at hj ⊢; try omega)).trans ((o61 j (by simp at hj ⊢; try omega)).trans (rfl))))), xx, ⟨by omega, by omega, by omega, by omega, by omega, by omega, by omega⟩⟩ | exact ⟨hB, (fun b hb => (f123 b (by simp at hb ⊢; try omega)).trans ((f103 b (by simp at hb ⊢; try omega)).trans ((f83 b (by simp at hb ⊢; try omega)).trans ((f61 b (by simp at hb ⊢; try omega)).trans (rfl))))), (fun j hj => (o123 j (by simp at hj ⊢; try omega)).trans ((o103 j (by simp at hj ⊢; try omega)).trans ((o83 j (by simp at hj ⊢; try omega)).trans ((o61 j (by simp at hj ⊢; try omega)).trans (rfl))))), pe_ME_g hM0 (by omega) (by omega) (by omega) ⟨by omega, by rw [show σ123 29 2 = σ 29 2 by omega]; exact hbg⟩ (by omega) ((f123 30 (by decide)).trans ((f103 30 (by decide)).trans ((f83 30 (by decide)).trans ((f61 30 (by decide)).trans (rfl))))) ((f123 31 (by decide)).trans ((f103 31 (by decide)).trans ((f83 31 (by decide)).trans ((f61 31 (by decide)).trans (rfl))))) ((f123 36 (by decide)).trans ((f103 36 (by decide)).trans ((f83 36 (by decide)).trans ((f61 36 (by decide)).trans (rfl))))) ((f123 32 (by decide)).trans ((f103 32 (by decide)).trans ((f83 32 (by decide)).trans ((f61 32 (by decide)).trans (rfl))))) ((f123 33 (by decide)).trans ((f103 33 (by decide)).trans ((f83 33 (by decide)).trans ((f61 33 (by decide)).trans (rfl))))) ((f123 34 (by decide)).trans ((f103 34 (by decide)).trans ((f83 34 (by decide)).trans ((f61 34 (by decide)).trans (rfl))))) ((f123 35 (by decide)).trans ((f103 35 (by decide)).trans ((f83 35 (by decide)).trans ((f61 35 (by decide)).trans (rfl))))), ⟨by omega, by omega, by omega, by omega, by omega, by omega, by omega⟩⟩
              · skip
                refine pe_sipush d_M_plain_94 ?_
                refine pe_goto (t := 103) d_M_plain_97 ?_
                refine pe_putiT f_M_190 g_11_17 d_M_plain_103 rfl rfl 17 rfl hB (by first | exact hB _ _ | exact hB0 _ _ | exact hBt _ _ | exact ⟨by omega, by omega⟩) (fun σ103 hB e103 o103 f103 => ?_)
                try have u103_0 : σ103 29 1 = σ83 29 1 := by first | exact o103 1 (by decide) | exact congrFun (f103 29 (by decide)) 1
                try have u103_1 : σ103 29 2 = σ83 29 2 := by first | exact o103 2 (by decide) | exact congrFun (f103 29 (by decide)) 2
                try have u103_2 : σ103 29 3 = σ83 29 3 := by first | exact o103 3 (by decide) | exact congrFun (f103 29 (by decide)) 3
                try have u103_3 : σ103 29 5 = σ83 29 5 := by first | exact o103 5 (by decide) | exact congrFun (f103 29 (by decide)) 5
                try have u103_4 : σ103 29 7 = σ83 29 7 := by first | exact o103 7 (by decide) | exact congrFun (f103 29 (by decide)) 7
                try have u103_5 : σ103 29 21 = σ83 29 21 := by first | exact o103 21 (by decide) | exact congrFun (f103 29 (by decide)) 21
                try have u103_6 : σ103 29 26 = σ83 29 26 := by first | exact o103 26 (by decide) | exact congrFun (f103 29 (by decide)) 26
                try have u103_7 : σ103 29 14 = σ83 29 14 := by first | exact o103 14 (by decide) | exact congrFun (f103 29 (by decide)) 14
                try have u103_8 : σ103 29 15 = σ83 29 15 := by first | exact o103 15 (by decide) | exact congrFun (f103 29 (by decide)) 15
                try have u103_9 : σ103 29 16 = σ83 29 16 := by first | exact o103 16 (by decide) | exact congrFun (f103 29 (by decide)) 16
                try have u103_10 : σ103 29 17 = σ83 29 17 := by first | exact o103 17 (by decide) | exact congrFun (f103 29 (by decide)) 17
                try have u103_11 : σ103 29 18 = σ83 29 18 := by first | exact o103 18 (by decide) | exact congrFun (f103 29 (by decide)) 18
                refine pe_aload_n d_M_plain_106 rfl ?_
                refine pe_iload_n d_M_plain_107 rfl ?_
                refine pe_sipush d_M_plain_108 ?_
                refine pe_icmp_ne (t := 120) d_M_plain_111 (by first | exact hB _ _ | exact hB0 _ _ | exact hBt _ _ | exact ⟨by omega, by omega⟩) (by first | exact hB _ _ | exact hB0 _ _ | exact hBt _ _ | exact ⟨by omega, by omega⟩) (fun h111 => ?_) (fun h111 => ?_)
                · skip
                  refine pe_sipush d_M_plain_120 ?_
                  refine pe_putiT f_M_193 g_11_18 d_M_plain_123 rfl rfl 18 rfl hB (by first | exact hB _ _ | exact hB0 _ _ | exact hBt _ _ | exact ⟨by omega, by omega⟩) (fun σ123 hB e123 o123 f123 => ?_)
                  try have u123_0 : σ123 29 1 = σ103 29 1 := by first | exact o123 1 (by decide) | exact congrFun (f123 29 (by decide)) 1
                  try have u123_1 : σ123 29 2 = σ103 29 2 := by first | exact o123 2 (by decide) | exact congrFun (f123 29 (by decide)) 2
                  try have u123_2 : σ123 29 3 = σ103 29 3 := by first | exact o123 3 (by decide) | exact congrFun (f123 29 (by decide)) 3
                  try have u123_3 : σ123 29 5 = σ103 29 5 := by first | exact o123 5 (by decide) | exact congrFun (f123 29 (by decide)) 5
                  try have u123_4 : σ123 29 7 = σ103 29 7 := by first | exact o123 7 (by decide) | exact congrFun (f123 29 (by decide)) 7
                  try have u123_5 : σ123 29 21 = σ103 29 21 := by first | exact o123 21 (by decide) | exact congrFun (f123 29 (by decide)) 21
                  try have u123_6 : σ123 29 26 = σ103 29 26 := by first | exact o123 26 (by decide) | exact congrFun (f123 29 (by decide)) 26
                  try have u123_7 : σ123 29 14 = σ103 29 14 := by first | exact o123 14 (by decide) | exact congrFun (f123 29 (by decide)) 14
                  try have u123_8 : σ123 29 15 = σ103 29 15 := by first | exact o123 15 (by decide) | exact congrFun (f123 29 (by decide)) 15
                  try have u123_9 : σ123 29 16 = σ103 29 16 := by first | exact o123 16 (by decide) | exact congrFun (f123 29 (by decide)) 16
                  try have u123_10 : σ123 29 17 = σ103 29 17 := by first | exact o123 17 (by decide) | exact congrFun (f123 29 (by decide)) 17
                  try have u123_11 : σ123 29 18 = σ103 29 18 := by first | exact o123 18 (by decide) | exact congrFun (f123 29 (by decide)) 18
                  refine pe_goto (t := 151) d_M_plain_126 ?_
                  refine pe_rv d_M_plain_151 ?_
                  first | exact ⟨hB, (fun b hb => (f123 b (by simp at hb ⊢; try omega)).trans ((f103 b (by simp at hb ⊢; try omega)).trans ((f83 b (by simp at hb ⊢; try omega)).trans ((f61 b (by simp at hb ⊢; try omega)).trans (rfl))))), (fun j hj => (o123 j (by simp at hj ⊢; try omega)).trans ((o103 j (by simp at hj ⊢; try omega)).trans ((o83 j (by simp at hj ⊢; try omega)).trans ((o61 j (by simp at hj ⊢; try omega)).trans (rfl))))), xx, ⟨by omega, by omega, by omega, by omega, by omega, by omega, by omega⟩⟩ | exact ⟨hB, (fun b hb => (f123 b (by simp at hb ⊢; try omega)).trans ((f103 b (by simp at hb ⊢; try omega)).trans ((f83 b (by simp at hb ⊢; try omega)).trans ((f61 b (by simp at hb ⊢; try omega)).trans (rfl))))), (fun j hj => (o123 j (by simp at hj ⊢; try omega)).trans ((o103 j (by simp at hj ⊢; try omega)).trans ((o83 j (by simp at hj ⊢; try omega)).trans ((o61 j (by simp at hj ⊢; try omega)).trans (rfl))))), pe_ME_g hM0 (by omega) (by omega) (by omega) ⟨by omega, by rw [show σ123 29 2 = σ 29 2 by omega]; exact hbg⟩ (by omega) ((f123 30 (by decide)).trans ((f103 30 (by decide)).trans ((f83 30 (by decide)).trans ((f61 30 (by decide)).trans (rfl))))) ((f123 31 (by decide)).trans ((f103 31 (by decide)).trans ((f83 31 (by decide)).trans ((f61 31 (by decide)).trans (rfl))))) ((f123 36 (by decide)).trans ((f103 36 (by decide)).trans ((f83 36 (by decide)).trans ((f61 36 (by decide)).trans (rfl))))) ((f123 32 (by decide)).trans ((f103 32 (by decide)).trans ((f83 32 (by decide)).trans ((f61 32 (by decide)).trans (rfl))))) ((f123 33 (by decide)).trans ((f103 33 (by decide)).trans ((f83 33 (by decide)).trans ((f61 33 (by decide)).trans (rfl))))) ((f123 34 (by decide)).trans ((f103 34 (by decide)).trans ((f83 34 (by decide)).trans ((f61 34 (by decide)).trans (rfl))))) ((f123 35 (by decide)).trans ((f103 35 (by decide)).trans ((f83 35 (by decide)).trans ((f61 35 (by decide)).trans (rfl))))), ⟨by omega, by omega, by omega, by omega, by omega, by omega, by omega⟩⟩
                · skip
                  refine pe_sipush d_M_plain_114 ?_
                  refine pe_goto (t := 123) d_M_plain_117 ?_
                  refine pe_putiT f_M_193 g_11_18 d_M_plain_123 rfl rfl 18 rfl hB (by first | exact hB _ _ | exact hB0 _ _ | exact hBt _ _ | exact ⟨by omega, by omega⟩) (fun σ123 hB e123 o123 f123 => ?_)
                  try have u123_0 : σ123 29 1 = σ103 29 1 := by first | exact o123 1 (by decide) | exact congrFun (f123 29 (by decide)) 1
                  try have u123_1 : σ123 29 2 = σ103 29 2 := by first | exact o123 2 (by decide) | exact congrFun (f123 29 (by decide)) 2
                  try have u123_2 : σ123 29 3 = σ103 29 3 := by first | exact o123 3 (by decide) | exact congrFun (f123 29 (by decide)) 3
                  try have u123_3 : σ123 29 5 = σ103 29 5 := by first | exact o123 5 (by decide) | exact congrFun (f123 29 (by decide)) 5
                  try have u123_4 : σ123 29 7 = σ103 29 7 := by first | exact o123 7 (by decide) | exact congrFun (f123 29 (by decide)) 7
                  try have u123_5 : σ123 29 21 = σ103 29 21 := by first | exact o123 21 (by decide) | exact congrFun (f123 29 (by decide)) 21
                  try have u123_6 : σ123 29 26 = σ103 29 26 := by first | exact o123 26 (by decide) | exact congrFun (f123 29 (by decide)) 26
                  try have u123_7 : σ123 29 14 = σ103 29 14 := by first | exact o123 14 (by decide) | exact congrFun (f123 29 (by decide)) 14
                  try have u123_8 : σ123 29 15 = σ103 29 15 := by first | exact o123 15 (by decide) | exact congrFun (f123 29 (by decide)) 15
                  try have u123_9 : σ123 29 16 = σ103 29 16 := by first | exact o123 16 (by decide) | exact congrFun (f123 29 (by decide)) 16
                  try have u123_10 : σ123 29 17 = σ103 29 17 := by first | exact o123 17 (by decide) | exact congrFun (f123 29 (by decide)) 17
                  try have u123_11 : σ123 29 18 = σ103 29 18 := by first | exact o123 18 (by decide) | exact congrFun (f123 29 (by decide)) 18
                  refine pe_goto (t := 151) d_M_plain_126 ?_
                  refine pe_rv d_M_plain_151 ?_
                  first | exact ⟨hB, (fun b hb => (f123 b (by simp at hb ⊢; try omega)).trans ((f103 b (by simp at hb ⊢; try omega)).trans ((f83 b (by simp at hb ⊢; try omega)).trans ((f61 b (by simp at hb ⊢; try omega)).trans (rfl))))), (fun j hj => (o123 j (by simp at hj ⊢; try omega)).trans ((o103 j (by simp at hj ⊢; try omega)).trans ((o83 j (by simp at hj ⊢; try omega)).trans ((o61 j (by simp at hj ⊢; try omega)).trans (rfl))))), xx, ⟨by omega, by omega, by omega, by omega, by omega, by omega, by omega⟩⟩ | exact ⟨hB, (fun b hb => (f123 b (by simp at hb ⊢; try omega)).trans ((f103 b (by simp at hb ⊢; try omega)).trans ((f83 b (by simp at hb ⊢; try omega)).trans ((f61 b (by simp at hb ⊢; try omega)).trans (rfl))))), (fun j hj => (o123 j (by simp at hj ⊢; try omega)).trans ((o103 j (by simp at hj ⊢; try omega)).trans ((o83 j (by simp at hj ⊢; try omega)).trans ((o61 j (by simp at hj ⊢; try omega)).trans (rfl))))), pe_ME_g hM0 (by omega) (by omega) (by omega) ⟨by omega, by rw [show σ123 29 2 = σ 29 2 by omega]; exact hbg⟩ (by omega) ((f123 30 (by decide)).trans ((f103 30 (by decide)).trans ((f83 30 (by decide)).trans ((f61 30 (by decide)).trans (rfl))))) ((f123 31 (by decide)).trans ((f103 31 (by decide)).trans ((f83 31 (by decide)).trans ((f61 31 (by decide)).trans (rfl))))) ((f123 36 (by decide)).trans ((f103 36 (by decide)).trans ((f83 36 (by decide)).trans ((f61 36 (by decide)).trans (rfl))))) ((f123 32 (by decide)).trans ((f103 32 (by decide)).trans ((f83 32 (by decide)).trans ((f61 32 (by decide)).trans (rfl))))) ((f123 33 (by decide)).trans ((f103 33 (by decide)).trans ((f83 33 (by decide)).trans ((f61 33 (by decide)).trans (rfl))))) ((f123 34 (by decide)).trans ((f103 34 (by decide)).trans ((f83 34 (by decide)).trans ((f61 34 (by decide)).trans (rfl))))) ((f123 35 (by decide)).trans ((f103 35 (by decide)).trans ((f83 35 (by decide)).trans ((f61 35 (by decide)).trans (rfl))))), ⟨by omega, by omega, by omega, by omega, by omega, by omega, by omega⟩⟩
    · skip
      refine pe_iload_n d_M_plain_20 rfl ?_
      refine pe_bipush d_M_plain_21 ?_
      refine pe_icmp_gt (t := 34) d_M_plain_23 (by first | exact hB _ _ | exact hB0 _ _ | exact hBt _ _ | exact ⟨by omega, by omega⟩) (by first | exact hB _ _ | exact hB0 _ _ | exact hBt _ _ | exact ⟨by omega, by omega⟩) (fun h23 => ?_) (fun h23 => ?_)
      · skip
        refine pe_iload_n d_M_plain_34 rfl ?_
        refine pe_sipush d_M_plain_35 ?_
        refine pe_icmp_lt (t := 129) d_M_plain_38 (by first | exact hB _ _ | exact hB0 _ _ | exact hBt _ _ | exact ⟨by omega, by omega⟩) (by first | exact hB _ _ | exact hB0 _ _ | exact hBt _ _ | exact ⟨by omega, by omega⟩) (fun h38 => ?_) (fun h38 => ?_)
        · skip
          refine pe_iload_n d_M_plain_129 rfl ?_
          refine pe_sipush d_M_plain_130 ?_
          refine pe_icmp_lt (t := 145) d_M_plain_133 (by first | exact hB _ _ | exact hB0 _ _ | exact hBt _ _ | exact ⟨by omega, by omega⟩) (by first | exact hB _ _ | exact hB0 _ _ | exact hBt _ _ | exact ⟨by omega, by omega⟩) (fun h133 => ?_) (fun h133 => ?_)
          · skip
            refine pe_aload_n d_M_plain_145 rfl ?_
            refine pe_iload_n d_M_plain_146 rfl ?_
            refine pe_iload_n d_M_plain_147 rfl ?_
            refine pe_v2v d_M_plain_148 c_M_197 i_M_control s_M_control rfl rfl (t_M_control hB hM0 (by first | exact hB _ _ | exact hB0 _ _ | exact hBt _ _ | exact ⟨by omega, by omega⟩) (by first | exact hB _ _ | exact hB0 _ _ | exact hBt _ _ | exact ⟨by omega, by omega⟩)) (fun σ148 hz148 => ?_)
            obtain ⟨hB, f148, o148, x148⟩ := hz148
            try have u148_0 : σ148 29 1 = σ 29 1 := by first | exact o148 1 (by decide) | exact congrFun (f148 29 (by decide)) 1
            try have u148_1 : σ148 29 2 = σ 29 2 := by first | exact o148 2 (by decide) | exact congrFun (f148 29 (by decide)) 2
            try have u148_2 : σ148 29 3 = σ 29 3 := by first | exact o148 3 (by decide) | exact congrFun (f148 29 (by decide)) 3
            try have u148_3 : σ148 29 5 = σ 29 5 := by first | exact o148 5 (by decide) | exact congrFun (f148 29 (by decide)) 5
            try have u148_4 : σ148 29 7 = σ 29 7 := by first | exact o148 7 (by decide) | exact congrFun (f148 29 (by decide)) 7
            try have u148_5 : σ148 29 21 = σ 29 21 := by first | exact o148 21 (by decide) | exact congrFun (f148 29 (by decide)) 21
            try have u148_6 : σ148 29 26 = σ 29 26 := by first | exact o148 26 (by decide) | exact congrFun (f148 29 (by decide)) 26
            try have u148_7 : σ148 29 14 = σ 29 14 := by first | exact o148 14 (by decide) | exact congrFun (f148 29 (by decide)) 14
            try have u148_8 : σ148 29 15 = σ 29 15 := by first | exact o148 15 (by decide) | exact congrFun (f148 29 (by decide)) 15
            try have u148_9 : σ148 29 16 = σ 29 16 := by first | exact o148 16 (by decide) | exact congrFun (f148 29 (by decide)) 16
            try have u148_10 : σ148 29 17 = σ 29 17 := by first | exact o148 17 (by decide) | exact congrFun (f148 29 (by decide)) 17
            try have u148_11 : σ148 29 18 = σ 29 18 := by first | exact o148 18 (by decide) | exact congrFun (f148 29 (by decide)) 18
            have xx := x148
            refine pe_rv d_M_plain_151 ?_
            first | exact ⟨hB, (fun b hb => (f148 b (by simp at hb ⊢; try omega)).trans (rfl)), (fun j hj => (o148 j (by simp at hj ⊢; try omega)).trans (rfl)), xx, ⟨by omega, by omega, by omega, by omega, by omega, by omega, by omega⟩⟩ | exact ⟨hB, (fun b hb => (f148 b (by simp at hb ⊢; try omega)).trans (rfl)), (fun j hj => (o148 j (by simp at hj ⊢; try omega)).trans (rfl)), pe_ME_g hM0 (by omega) (by omega) (by omega) ⟨by omega, by rw [show σ148 29 2 = σ 29 2 by omega]; exact hbg⟩ (by omega) ((f148 30 (by decide)).trans (rfl)) ((f148 31 (by decide)).trans (rfl)) ((f148 36 (by decide)).trans (rfl)) ((f148 32 (by decide)).trans (rfl)) ((f148 33 (by decide)).trans (rfl)) ((f148 34 (by decide)).trans (rfl)) ((f148 35 (by decide)).trans (rfl)), ⟨by omega, by omega, by omega, by omega, by omega, by omega, by omega⟩⟩
          · skip
            refine pe_aload_n d_M_plain_136 rfl ?_
            refine pe_ldc q_M_196 d_M_plain_137 (z := 65533) rfl ?_
            refine pe_v1v d_M_plain_139 c_M_144 i_M_character s_M_character rfl rfl (t_M_character hB hM0 (by omega)) (fun σ139 hz139 => ?_)
            obtain ⟨hB, f139, o139, x139⟩ := hz139
            try have u139_0 : σ139 29 1 = σ 29 1 := by first | exact o139 1 (by decide) | exact congrFun (f139 29 (by decide)) 1
            try have u139_1 : σ139 29 2 = σ 29 2 := by first | exact o139 2 (by decide) | exact congrFun (f139 29 (by decide)) 2
            try have u139_2 : σ139 29 3 = σ 29 3 := by first | exact o139 3 (by decide) | exact congrFun (f139 29 (by decide)) 3
            try have u139_3 : σ139 29 5 = σ 29 5 := by first | exact o139 5 (by decide) | exact congrFun (f139 29 (by decide)) 5
            try have u139_4 : σ139 29 7 = σ 29 7 := by first | exact o139 7 (by decide) | exact congrFun (f139 29 (by decide)) 7
            try have u139_5 : σ139 29 21 = σ 29 21 := by first | exact o139 21 (by decide) | exact congrFun (f139 29 (by decide)) 21
            try have u139_6 : σ139 29 26 = σ 29 26 := by first | exact o139 26 (by decide) | exact congrFun (f139 29 (by decide)) 26
            try have u139_7 : σ139 29 14 = σ 29 14 := by first | exact o139 14 (by decide) | exact congrFun (f139 29 (by decide)) 14
            try have u139_8 : σ139 29 15 = σ 29 15 := by first | exact o139 15 (by decide) | exact congrFun (f139 29 (by decide)) 15
            try have u139_9 : σ139 29 16 = σ 29 16 := by first | exact o139 16 (by decide) | exact congrFun (f139 29 (by decide)) 16
            try have u139_10 : σ139 29 17 = σ 29 17 := by first | exact o139 17 (by decide) | exact congrFun (f139 29 (by decide)) 17
            try have u139_11 : σ139 29 18 = σ 29 18 := by first | exact o139 18 (by decide) | exact congrFun (f139 29 (by decide)) 18
            have xx := x139
            refine pe_goto (t := 151) d_M_plain_142 ?_
            refine pe_rv d_M_plain_151 ?_
            first | exact ⟨hB, (fun b hb => (f139 b (by simp at hb ⊢; try omega)).trans (rfl)), (fun j hj => (o139 j (by simp at hj ⊢; try omega)).trans (rfl)), xx, ⟨by omega, by omega, by omega, by omega, by omega, by omega, by omega⟩⟩ | exact ⟨hB, (fun b hb => (f139 b (by simp at hb ⊢; try omega)).trans (rfl)), (fun j hj => (o139 j (by simp at hj ⊢; try omega)).trans (rfl)), pe_ME_g hM0 (by omega) (by omega) (by omega) ⟨by omega, by rw [show σ139 29 2 = σ 29 2 by omega]; exact hbg⟩ (by omega) ((f139 30 (by decide)).trans (rfl)) ((f139 31 (by decide)).trans (rfl)) ((f139 36 (by decide)).trans (rfl)) ((f139 32 (by decide)).trans (rfl)) ((f139 33 (by decide)).trans (rfl)) ((f139 34 (by decide)).trans (rfl)) ((f139 35 (by decide)).trans (rfl)), ⟨by omega, by omega, by omega, by omega, by omega, by omega, by omega⟩⟩
        · skip
          refine pe_iload_n d_M_plain_41 rfl ?_
          refine pe_sipush d_M_plain_42 ?_
          refine pe_icmp_gt (t := 129) d_M_plain_45 (by first | exact hB _ _ | exact hB0 _ _ | exact hBt _ _ | exact ⟨by omega, by omega⟩) (by first | exact hB _ _ | exact hB0 _ _ | exact hBt _ _ | exact ⟨by omega, by omega⟩) (fun h45 => ?_) (fun h45 => ?_)
          · skip
            refine pe_iload_n d_M_plain_129 rfl ?_
            refine pe_sipush d_M_plain_130 ?_
            refine pe_icmp_lt (t := 145) d_M_plain_133 (by first | exact hB _ _ | exact hB0 _ _ | exact hBt _ _ | exact ⟨by omega, by omega⟩) (by first | exact hB _ _ | exact hB0 _ _ | exact hBt _ _ | exact ⟨by omega, by omega⟩) (fun h133 => ?_) (fun h133 => ?_)
            · skip
              refine pe_aload_n d_M_plain_145 rfl ?_
              refine pe_iload_n d_M_plain_146 rfl ?_
              refine pe_iload_n d_M_plain_147 rfl ?_
              refine pe_v2v d_M_plain_148 c_M_197 i_M_control s_M_control rfl rfl (t_M_control hB hM0 (by first | exact hB _ _ | exact hB0 _ _ | exact hBt _ _ | exact ⟨by omega, by omega⟩) (by first | exact hB _ _ | exact hB0 _ _ | exact hBt _ _ | exact ⟨by omega, by omega⟩)) (fun σ148 hz148 => ?_)
              obtain ⟨hB, f148, o148, x148⟩ := hz148
              try have u148_0 : σ148 29 1 = σ 29 1 := by first | exact o148 1 (by decide) | exact congrFun (f148 29 (by decide)) 1
              try have u148_1 : σ148 29 2 = σ 29 2 := by first | exact o148 2 (by decide) | exact congrFun (f148 29 (by decide)) 2
              try have u148_2 : σ148 29 3 = σ 29 3 := by first | exact o148 3 (by decide) | exact congrFun (f148 29 (by decide)) 3
              try have u148_3 : σ148 29 5 = σ 29 5 := by first | exact o148 5 (by decide) | exact congrFun (f148 29 (by decide)) 5
              try have u148_4 : σ148 29 7 = σ 29 7 := by first | exact o148 7 (by decide) | exact congrFun (f148 29 (by decide)) 7
              try have u148_5 : σ148 29 21 = σ 29 21 := by first | exact o148 21 (by decide) | exact congrFun (f148 29 (by decide)) 21
              try have u148_6 : σ148 29 26 = σ 29 26 := by first | exact o148 26 (by decide) | exact congrFun (f148 29 (by decide)) 26
              try have u148_7 : σ148 29 14 = σ 29 14 := by first | exact o148 14 (by decide) | exact congrFun (f148 29 (by decide)) 14
              try have u148_8 : σ148 29 15 = σ 29 15 := by first | exact o148 15 (by decide) | exact congrFun (f148 29 (by decide)) 15
              try have u148_9 : σ148 29 16 = σ 29 16 := by first | exact o148 16 (by decide) | exact congrFun (f148 29 (by decide)) 16
              try have u148_10 : σ148 29 17 = σ 29 17 := by first | exact o148 17 (by decide) | exact congrFun (f148 29 (by decide)) 17
              try have u148_11 : σ148 29 18 = σ 29 18 := by first | exact o148 18 (by decide) | exact congrFun (f148 29 (by decide)) 18
              have xx := x148
              refine pe_rv d_M_plain_151 ?_
              first | exact ⟨hB, (fun b hb => (f148 b (by simp at hb ⊢; try omega)).trans (rfl)), (fun j hj => (o148 j (by simp at hj ⊢; try omega)).trans (rfl)), xx, ⟨by omega, by omega, by omega, by omega, by omega, by omega, by omega⟩⟩ | exact ⟨hB, (fun b hb => (f148 b (by simp at hb ⊢; try omega)).trans (rfl)), (fun j hj => (o148 j (by simp at hj ⊢; try omega)).trans (rfl)), pe_ME_g hM0 (by omega) (by omega) (by omega) ⟨by omega, by rw [show σ148 29 2 = σ 29 2 by omega]; exact hbg⟩ (by omega) ((f148 30 (by decide)).trans (rfl)) ((f148 31 (by decide)).trans (rfl)) ((f148 36 (by decide)).trans (rfl)) ((f148 32 (by decide)).trans (rfl)) ((f148 33 (by decide)).trans (rfl)) ((f148 34 (by decide)).trans (rfl)) ((f148 35 (by decide)).trans (rfl)), ⟨by omega, by omega, by omega, by omega, by omega, by omega, by omega⟩⟩
            · skip
              refine pe_aload_n d_M_plain_136 rfl ?_
              refine pe_ldc q_M_196 d_M_plain_137 (z := 65533) rfl ?_
              refine pe_v1v d_M_plain_139 c_M_144 i_M_character s_M_character rfl rfl (t_M_character hB hM0 (by omega)) (fun σ139 hz139 => ?_)
              obtain ⟨hB, f139, o139, x139⟩ := hz139
              try have u139_0 : σ139 29 1 = σ 29 1 := by first | exact o139 1 (by decide) | exact congrFun (f139 29 (by decide)) 1
              try have u139_1 : σ139 29 2 = σ 29 2 := by first | exact o139 2 (by decide) | exact congrFun (f139 29 (by decide)) 2
              try have u139_2 : σ139 29 3 = σ 29 3 := by first | exact o139 3 (by decide) | exact congrFun (f139 29 (by decide)) 3
              try have u139_3 : σ139 29 5 = σ 29 5 := by first | exact o139 5 (by decide) | exact congrFun (f139 29 (by decide)) 5
              try have u139_4 : σ139 29 7 = σ 29 7 := by first | exact o139 7 (by decide) | exact congrFun (f139 29 (by decide)) 7
              try have u139_5 : σ139 29 21 = σ 29 21 := by first | exact o139 21 (by decide) | exact congrFun (f139 29 (by decide)) 21
              try have u139_6 : σ139 29 26 = σ 29 26 := by first | exact o139 26 (by decide) | exact congrFun (f139 29 (by decide)) 26
              try have u139_7 : σ139 29 14 = σ 29 14 := by first | exact o139 14 (by decide) | exact congrFun (f139 29 (by decide)) 14
              try have u139_8 : σ139 29 15 = σ 29 15 := by first | exact o139 15 (by decide) | exact congrFun (f139 29 (by decide)) 15
              try have u139_9 : σ139 29 16 = σ 29 16 := by first | exact o139 16 (by decide) | exact congrFun (f139 29 (by decide)) 16
              try have u139_10 : σ139 29 17 = σ 29 17 := by first | exact o139 17 (by decide) | exact congrFun (f139 29 (by decide)) 17
              try have u139_11 : σ139 29 18 = σ 29 18 := by first | exact o139 18 (by decide) | exact congrFun (f139 29 (by decide)) 18
              have xx := x139
              refine pe_goto (t := 151) d_M_plain_142 ?_
              refine pe_rv d_M_plain_151 ?_
              first | exact ⟨hB, (fun b hb => (f139 b (by simp at hb ⊢; try omega)).trans (rfl)), (fun j hj => (o139 j (by simp at hj ⊢; try omega)).trans (rfl)), xx, ⟨by omega, by omega, by omega, by omega, by omega, by omega, by omega⟩⟩ | exact ⟨hB, (fun b hb => (f139 b (by simp at hb ⊢; try omega)).trans (rfl)), (fun j hj => (o139 j (by simp at hj ⊢; try omega)).trans (rfl)), pe_ME_g hM0 (by omega) (by omega) (by omega) ⟨by omega, by rw [show σ139 29 2 = σ 29 2 by omega]; exact hbg⟩ (by omega) ((f139 30 (by decide)).trans (rfl)) ((f139 31 (by decide)).trans (rfl)) ((f139 36 (by decide)).trans (rfl)) ((f139 32 (by decide)).trans (rfl)) ((f139 33 (by decide)).trans (rfl)) ((f139 34 (by decide)).trans (rfl)) ((f139 35 (by decide)).trans (rfl)), ⟨by omega, by omega, by omega, by omega, by omega, by omega, by omega⟩⟩
          · skip
            refine pe_aload_n d_M_plain_48 rfl ?_
            refine pe_iload_n d_M_plain_49 rfl ?_
            refine pe_sipush d_M_plain_50 ?_
            refine pe_icmp_ge (t := 60) d_M_plain_53 (by first | exact hB _ _ | exact hB0 _ _ | exact hBt _ _ | exact ⟨by omega, by omega⟩) (by first | exact hB _ _ | exact hB0 _ _ | exact hBt _ _ | exact ⟨by omega, by omega⟩) (fun h53 => ?_) (fun h53 => ?_)
            · skip
              refine pe_iconst d_M_plain_60 ?_
              refine pe_putiT f_M_184 g_11_15 d_M_plain_61 rfl rfl 15 rfl hB (by first | exact hB _ _ | exact hB0 _ _ | exact hBt _ _ | exact ⟨by omega, by omega⟩) (fun σ61 hB e61 o61 f61 => ?_)
              try have u61_0 : σ61 29 1 = σ 29 1 := by first | exact o61 1 (by decide) | exact congrFun (f61 29 (by decide)) 1
              try have u61_1 : σ61 29 2 = σ 29 2 := by first | exact o61 2 (by decide) | exact congrFun (f61 29 (by decide)) 2
              try have u61_2 : σ61 29 3 = σ 29 3 := by first | exact o61 3 (by decide) | exact congrFun (f61 29 (by decide)) 3
              try have u61_3 : σ61 29 5 = σ 29 5 := by first | exact o61 5 (by decide) | exact congrFun (f61 29 (by decide)) 5
              try have u61_4 : σ61 29 7 = σ 29 7 := by first | exact o61 7 (by decide) | exact congrFun (f61 29 (by decide)) 7
              try have u61_5 : σ61 29 21 = σ 29 21 := by first | exact o61 21 (by decide) | exact congrFun (f61 29 (by decide)) 21
              try have u61_6 : σ61 29 26 = σ 29 26 := by first | exact o61 26 (by decide) | exact congrFun (f61 29 (by decide)) 26
              try have u61_7 : σ61 29 14 = σ 29 14 := by first | exact o61 14 (by decide) | exact congrFun (f61 29 (by decide)) 14
              try have u61_8 : σ61 29 15 = σ 29 15 := by first | exact o61 15 (by decide) | exact congrFun (f61 29 (by decide)) 15
              try have u61_9 : σ61 29 16 = σ 29 16 := by first | exact o61 16 (by decide) | exact congrFun (f61 29 (by decide)) 16
              try have u61_10 : σ61 29 17 = σ 29 17 := by first | exact o61 17 (by decide) | exact congrFun (f61 29 (by decide)) 17
              try have u61_11 : σ61 29 18 = σ 29 18 := by first | exact o61 18 (by decide) | exact congrFun (f61 29 (by decide)) 18
              refine pe_aload_n d_M_plain_64 rfl ?_
              refine pe_iload_n d_M_plain_65 rfl ?_
              refine pe_sipush d_M_plain_66 ?_
              refine pe_icmp_ge (t := 79) d_M_plain_69 (by first | exact hB _ _ | exact hB0 _ _ | exact hBt _ _ | exact ⟨by omega, by omega⟩) (by first | exact hB _ _ | exact hB0 _ _ | exact hBt _ _ | exact ⟨by omega, by omega⟩) (fun h69 => ?_) (fun h69 => ?_)
              · skip
                refine pe_iload_n d_M_plain_79 rfl ?_
                refine pe_bipush d_M_plain_80 ?_
                refine pe_iand d_M_plain_82 (pe_and 4 16 (by omega) (by omega)) ?_
                refine pe_putiT f_M_187 g_11_16 d_M_plain_83 rfl rfl 16 rfl hB (by first | exact hB _ _ | exact hB0 _ _ | exact hBt _ _ | exact ⟨by omega, by omega⟩) (fun σ83 hB e83 o83 f83 => ?_)
                try have u83_0 : σ83 29 1 = σ61 29 1 := by first | exact o83 1 (by decide) | exact congrFun (f83 29 (by decide)) 1
                try have u83_1 : σ83 29 2 = σ61 29 2 := by first | exact o83 2 (by decide) | exact congrFun (f83 29 (by decide)) 2
                try have u83_2 : σ83 29 3 = σ61 29 3 := by first | exact o83 3 (by decide) | exact congrFun (f83 29 (by decide)) 3
                try have u83_3 : σ83 29 5 = σ61 29 5 := by first | exact o83 5 (by decide) | exact congrFun (f83 29 (by decide)) 5
                try have u83_4 : σ83 29 7 = σ61 29 7 := by first | exact o83 7 (by decide) | exact congrFun (f83 29 (by decide)) 7
                try have u83_5 : σ83 29 21 = σ61 29 21 := by first | exact o83 21 (by decide) | exact congrFun (f83 29 (by decide)) 21
                try have u83_6 : σ83 29 26 = σ61 29 26 := by first | exact o83 26 (by decide) | exact congrFun (f83 29 (by decide)) 26
                try have u83_7 : σ83 29 14 = σ61 29 14 := by first | exact o83 14 (by decide) | exact congrFun (f83 29 (by decide)) 14
                try have u83_8 : σ83 29 15 = σ61 29 15 := by first | exact o83 15 (by decide) | exact congrFun (f83 29 (by decide)) 15
                try have u83_9 : σ83 29 16 = σ61 29 16 := by first | exact o83 16 (by decide) | exact congrFun (f83 29 (by decide)) 16
                try have u83_10 : σ83 29 17 = σ61 29 17 := by first | exact o83 17 (by decide) | exact congrFun (f83 29 (by decide)) 17
                try have u83_11 : σ83 29 18 = σ61 29 18 := by first | exact o83 18 (by decide) | exact congrFun (f83 29 (by decide)) 18
                refine pe_aload_n d_M_plain_86 rfl ?_
                refine pe_iload_n d_M_plain_87 rfl ?_
                refine pe_sipush d_M_plain_88 ?_
                refine pe_icmp_ne (t := 100) d_M_plain_91 (by first | exact hB _ _ | exact hB0 _ _ | exact hBt _ _ | exact ⟨by omega, by omega⟩) (by first | exact hB _ _ | exact hB0 _ _ | exact hBt _ _ | exact ⟨by omega, by omega⟩) (fun h91 => ?_) (fun h91 => ?_)
                · skip
                  refine pe_sipush d_M_plain_100 ?_
                  refine pe_putiT f_M_190 g_11_17 d_M_plain_103 rfl rfl 17 rfl hB (by first | exact hB _ _ | exact hB0 _ _ | exact hBt _ _ | exact ⟨by omega, by omega⟩) (fun σ103 hB e103 o103 f103 => ?_)
                  try have u103_0 : σ103 29 1 = σ83 29 1 := by first | exact o103 1 (by decide) | exact congrFun (f103 29 (by decide)) 1
                  try have u103_1 : σ103 29 2 = σ83 29 2 := by first | exact o103 2 (by decide) | exact congrFun (f103 29 (by decide)) 2
                  try have u103_2 : σ103 29 3 = σ83 29 3 := by first | exact o103 3 (by decide) | exact congrFun (f103 29 (by decide)) 3
                  try have u103_3 : σ103 29 5 = σ83 29 5 := by first | exact o103 5 (by decide) | exact congrFun (f103 29 (by decide)) 5
                  try have u103_4 : σ103 29 7 = σ83 29 7 := by first | exact o103 7 (by decide) | exact congrFun (f103 29 (by decide)) 7
                  try have u103_5 : σ103 29 21 = σ83 29 21 := by first | exact o103 21 (by decide) | exact congrFun (f103 29 (by decide)) 21
                  try have u103_6 : σ103 29 26 = σ83 29 26 := by first | exact o103 26 (by decide) | exact congrFun (f103 29 (by decide)) 26
                  try have u103_7 : σ103 29 14 = σ83 29 14 := by first | exact o103 14 (by decide) | exact congrFun (f103 29 (by decide)) 14
                  try have u103_8 : σ103 29 15 = σ83 29 15 := by first | exact o103 15 (by decide) | exact congrFun (f103 29 (by decide)) 15
                  try have u103_9 : σ103 29 16 = σ83 29 16 := by first | exact o103 16 (by decide) | exact congrFun (f103 29 (by decide)) 16
                  try have u103_10 : σ103 29 17 = σ83 29 17 := by first | exact o103 17 (by decide) | exact congrFun (f103 29 (by decide)) 17
                  try have u103_11 : σ103 29 18 = σ83 29 18 := by first | exact o103 18 (by decide) | exact congrFun (f103 29 (by decide)) 18
                  refine pe_aload_n d_M_plain_106 rfl ?_
                  refine pe_iload_n d_M_plain_107 rfl ?_
                  refine pe_sipush d_M_plain_108 ?_
                  refine pe_icmp_ne (t := 120) d_M_plain_111 (by first | exact hB _ _ | exact hB0 _ _ | exact hBt _ _ | exact ⟨by omega, by omega⟩) (by first | exact hB _ _ | exact hB0 _ _ | exact hBt _ _ | exact ⟨by omega, by omega⟩) (fun h111 => ?_) (fun h111 => ?_)
                  · skip
                    refine pe_sipush d_M_plain_120 ?_
                    refine pe_putiT f_M_193 g_11_18 d_M_plain_123 rfl rfl 18 rfl hB (by first | exact hB _ _ | exact hB0 _ _ | exact hBt _ _ | exact ⟨by omega, by omega⟩) (fun σ123 hB e123 o123 f123 => ?_)
                    try have u123_0 : σ123 29 1 = σ103 29 1 := by first | exact o123 1 (by decide) | exact congrFun (f123 29 (by decide)) 1
                    try have u123_1 : σ123 29 2 = σ103 29 2 := by first | exact o123 2 (by decide) | exact congrFun (f123 29 (by decide)) 2
                    try have u123_2 : σ123 29 3 = σ103 29 3 := by first | exact o123 3 (by decide) | exact congrFun (f123 29 (by decide)) 3
                    try have u123_3 : σ123 29 5 = σ103 29 5 := by first | exact o123 5 (by decide) | exact congrFun (f123 29 (by decide)) 5
                    try have u123_4 : σ123 29 7 = σ103 29 7 := by first | exact o123 7 (by decide) | exact congrFun (f123 29 (by decide)) 7
                    try have u123_5 : σ123 29 21 = σ103 29 21 := by first | exact o123 21 (by decide) | exact congrFun (f123 29 (by decide)) 21
                    try have u123_6 : σ123 29 26 = σ103 29 26 := by first | exact o123 26 (by decide) | exact congrFun (f123 29 (by decide)) 26
                    try have u123_7 : σ123 29 14 = σ103 29 14 := by first | exact o123 14 (by decide) | exact congrFun (f123 29 (by decide)) 14
                    try have u123_8 : σ123 29 15 = σ103 29 15 := by first | exact o123 15 (by decide) | exact congrFun (f123 29 (by decide)) 15
                    try have u123_9 : σ123 29 16 = σ103 29 16 := by first | exact o123 16 (by decide) | exact congrFun (f123 29 (by decide)) 16
                    try have u123_10 : σ123 29 17 = σ103 29 17 := by first | exact o123 17 (by decide) | exact congrFun (f123 29 (by decide)) 17
                    try have u123_11 : σ123 29 18 = σ103 29 18 := by first | exact o123 18 (by decide) | exact congrFun (f123 29 (by decide)) 18
                    refine pe_goto (t := 151) d_M_plain_126 ?_
                    refine pe_rv d_M_plain_151 ?_
                    first | exact ⟨hB, (fun b hb => (f123 b (by simp at hb ⊢; try omega)).trans ((f103 b (by simp at hb ⊢; try omega)).trans ((f83 b (by simp at hb ⊢; try omega)).trans ((f61 b (by simp at hb ⊢; try omega)).trans (rfl))))), (fun j hj => (o123 j (by simp at hj ⊢; try omega)).trans ((o103 j (by simp at hj ⊢; try omega)).trans ((o83 j (by simp at hj ⊢; try omega)).trans ((o61 j (by simp at hj ⊢; try omega)).trans (rfl))))), xx, ⟨by omega, by omega, by omega, by omega, by omega, by omega, by omega⟩⟩ | exact ⟨hB, (fun b hb => (f123 b (by simp at hb ⊢; try omega)).trans ((f103 b (by simp at hb ⊢; try omega)).trans ((f83 b (by simp at hb ⊢; try omega)).trans ((f61 b (by simp at hb ⊢; try omega)).trans (rfl))))), (fun j hj => (o123 j (by simp at hj ⊢; try omega)).trans ((o103 j (by simp at hj ⊢; try omega)).trans ((o83 j (by simp at hj ⊢; try omega)).trans ((o61 j (by simp at hj ⊢; try omega)).trans (rfl))))), pe_ME_g hM0 (by omega) (by omega) (by omega) ⟨by omega, by rw [show σ123 29 2 = σ 29 2 by omega]; exact hbg⟩ (by omega) ((f123 30 (by decide)).trans ((f103 30 (by decide)).trans ((f83 30 (by decide)).trans ((f61 30 (by decide)).trans (rfl))))) ((f123 31 (by decide)).trans ((f103 31 (by decide)).trans ((f83 31 (by decide)).trans ((f61 31 (by decide)).trans (rfl))))) ((f123 36 (by decide)).trans ((f103 36 (by decide)).trans ((f83 36 (by decide)).trans ((f61 36 (by decide)).trans (rfl))))) ((f123 32 (by decide)).trans ((f103 32 (by decide)).trans ((f83 32 (by decide)).trans ((f61 32 (by decide)).trans (rfl))))) ((f123 33 (by decide)).trans ((f103 33 (by decide)).trans ((f83 33 (by decide)).trans ((f61 33 (by decide)).trans (rfl))))) ((f123 34 (by decide)).trans ((f103 34 (by decide)).trans ((f83 34 (by decide)).trans ((f61 34 (by decide)).trans (rfl))))) ((f123 35 (by decide)).trans ((f103 35 (by decide)).trans ((f83 35 (by decide)).trans ((f61 35 (by decide)).trans (rfl))))), ⟨by omega, by omega, by omega, by omega, by omega, by omega, by omega⟩⟩
                  · skip
                    refine pe_sipush d_M_plain_114 ?_
                    refine pe_goto (t := 123) d_M_plain_117 ?_
                    refine pe_putiT f_M_193 g_11_18 d_M_plain_123 rfl rfl 18 rfl hB (by first | exact hB _ _ | exact hB0 _ _ | exact hBt _ _ | exact ⟨by omega, by omega⟩) (fun σ123 hB e123 o123 f123 => ?_)
                    try have u123_0 : σ123 29 1 = σ103 29 1 := by first | exact o123 1 (by decide) | exact congrFun (f123 29 (by decide)) 1
                    try have u123_1 : σ123 29 2 = σ103 29 2 := by first | exact o123 2 (by decide) | exact congrFun (f123 29 (by decide)) 2
                    try have u123_2 : σ123 29 3 = σ103 29 3 := by first | exact o123 3 (by decide) | exact congrFun (f123 29 (by decide)) 3
                    try have u123_3 : σ123 29 5 = σ103 29 5 := by first | exact o123 5 (by decide) | exact congrFun (f123 29 (by decide)) 5
                    try have u123_4 : σ123 29 7 = σ103 29 7 := by first | exact o123 7 (by decide) | exact congrFun (f123 29 (by decide)) 7
                    try have u123_5 : σ123 29 21 = σ103 29 21 := by first | exact o123 21 (by decide) | exact congrFun (f123 29 (by decide)) 21
                    try have u123_6 : σ123 29 26 = σ103 29 26 := by first | exact o123 26 (by decide) | exact congrFun (f123 29 (by decide)) 26
                    try have u123_7 : σ123 29 14 = σ103 29 14 := by first | exact o123 14 (by decide) | exact congrFun (f123 29 (by decide)) 14
                    try have u123_8 : σ123 29 15 = σ103 29 15 := by first | exact o123 15 (by decide) | exact congrFun (f123 29 (by decide)) 15
                    try have u123_9 : σ123 29 16 = σ103 29 16 := by first | exact o123 16 (by decide) | exact congrFun (f123 29 (by decide)) 16
                    try have u123_10 : σ123 29 17 = σ103 29 17 := by first | exact o123 17 (by decide) | exact congrFun (f123 29 (by decide)) 17
                    try have u123_11 : σ123 29 18 = σ103 29 18 := by first | exact o123 18 (by decide) | exact congrFun (f123 29 (by decide)) 18
                    refine pe_goto (t := 151) d_M_plain_126 ?_
                    refine pe_rv d_M_plain_151 ?_
                    first | exact ⟨hB, (fun b hb => (f123 b (by simp at hb ⊢; try omega)).trans ((f103 b (by simp at hb ⊢; try omega)).trans ((f83 b (by simp at hb ⊢; try omega)).trans ((f61 b (by simp at hb ⊢; try omega)).trans (rfl))))), (fun j hj => (o123 j (by simp at hj ⊢; try omega)).trans ((o103 j (by simp at hj ⊢; try omega)).trans ((o83 j (by simp at hj ⊢; try omega)).trans ((o61 j (by simp at hj ⊢; try omega)).trans (rfl))))), xx, ⟨by omega, by omega, by omega, by omega, by omega, by omega, by omega⟩⟩ | exact ⟨hB, (fun b hb => (f123 b (by simp at hb ⊢; try omega)).trans ((f103 b (by simp at hb ⊢; try omega)).trans ((f83 b (by simp at hb ⊢; try omega)).trans ((f61 b (by simp at hb ⊢; try omega)).trans (rfl))))), (fun j hj => (o123 j (by simp at hj ⊢; try omega)).trans ((o103 j (by simp at hj ⊢; try omega)).trans ((o83 j (by simp at hj ⊢; try omega)).trans ((o61 j (by simp at hj ⊢; try omega)).trans (rfl))))), pe_ME_g hM0 (by omega) (by omega) (by omega) ⟨by omega, by rw [show σ123 29 2 = σ 29 2 by omega]; exact hbg⟩ (by omega) ((f123 30 (by decide)).trans ((f103 30 (by decide)).trans ((f83 30 (by decide)).trans ((f61 30 (by decide)).trans (rfl))))) ((f123 31 (by decide)).trans ((f103 31 (by decide)).trans ((f83 31 (by decide)).trans ((f61 31 (by decide)).trans (rfl))))) ((f123 36 (by decide)).trans ((f103 36 (by decide)).trans ((f83 36 (by decide)).trans ((f61 36 (by decide)).trans (rfl))))) ((f123 32 (by decide)).trans ((f103 32 (by decide)).trans ((f83 32 (by decide)).trans ((f61 32 (by decide)).trans (rfl))))) ((f123 33 (by decide)).trans ((f103 33 (by decide)).trans ((f83 33 (by decide)).trans ((f61 33 (by decide)).trans (rfl))))) ((f123 34 (by decide)).trans ((f103 34 (by decide)).trans ((f83 34 (by decide)).trans ((f61 34 (by decide)).trans (rfl))))) ((f123 35 (by decide)).trans ((f103 35 (by decide)).trans ((f83 35 (by decide)).trans ((f61 35 (by decide)).trans (rfl))))), ⟨by omega, by omega, by omega, by omega, by omega, by omega, by omega⟩⟩
                · skip
                  refine pe_sipush d_M_plain_94 ?_
                  refine pe_goto (t := 103) d_M_plain_97 ?_
                  refine pe_putiT f_M_190 g_11_17 d_M_plain_103 rfl rfl 17 rfl hB (by first | exact hB _ _ | exact hB0 _ _ | exact hBt _ _ | exact ⟨by omega, by omega⟩) (fun σ103 hB e103 o103 f103 => ?_)
                  try have u103_0 : σ103 29 1 = σ83 29 1 := by first | exact o103 1 (by decide) | exact congrFun (f103 29 (by decide)) 1
                  try have u103_1 : σ103 29 2 = σ83 29 2 := by first | exact o103 2 (by decide) | exact congrFun (f103 29 (by decide)) 2
                  try have u103_2 : σ103 29 3 = σ83 29 3 := by first | exact o103 3 (by decide) | exact congrFun (f103 29 (by decide)) 3
                  try have u103_3 : σ103 29 5 = σ83 29 5 := by first | exact o103 5 (by decide) | exact congrFun (f103 29 (by decide)) 5
                  try have u103_4 : σ103 29 7 = σ83 29 7 := by first | exact o103 7 (by decide) | exact congrFun (f103 29 (by decide)) 7
                  try have u103_5 : σ103 29 21 = σ83 29 21 := by first | exact o103 21 (by decide) | exact congrFun (f103 29 (by decide)) 21
                  try have u103_6 : σ103 29 26 = σ83 29 26 := by first | exact o103 26 (by decide) | exact congrFun (f103 29 (by decide)) 26
                  try have u103_7 : σ103 29 14 = σ83 29 14 := by first | exact o103 14 (by decide) | exact congrFun (f103 29 (by decide)) 14
                  try have u103_8 : σ103 29 15 = σ83 29 15 := by first | exact o103 15 (by decide) | exact congrFun (f103 29 (by decide)) 15
                  try have u103_9 : σ103 29 16 = σ83 29 16 := by first | exact o103 16 (by decide) | exact congrFun (f103 29 (by decide)) 16
                  try have u103_10 : σ103 29 17 = σ83 29 17 := by first | exact o103 17 (by decide) | exact congrFun (f103 29 (by decide)) 17
                  try have u103_11 : σ103 29 18 = σ83 29 18 := by first | exact o103 18 (by decide) | exact congrFun (f103 29 (by decide)) 18
                  refine pe_aload_n d_M_plain_106 rfl ?_
                  refine pe_iload_n d_M_plain_107 rfl ?_
                  refine pe_sipush d_M_plain_108 ?_
                  refine pe_icmp_ne (t := 120) d_M_plain_111 (by first | exact hB _ _ | exact hB0 _ _ | exact hBt _ _ | exact ⟨by omega, by omega⟩) (by first | exact hB _ _ | exact hB0 _ _ | exact hBt _ _ | exact ⟨by omega, by omega⟩) (fun h111 => ?_) (fun h111 => ?_)
                  · skip
                    refine pe_sipush d_M_plain_120 ?_
                    refine pe_putiT f_M_193 g_11_18 d_M_plain_123 rfl rfl 18 rfl hB (by first | exact hB _ _ | exact hB0 _ _ | exact hBt _ _ | exact ⟨by omega, by omega⟩) (fun σ123 hB e123 o123 f123 => ?_)
                    try have u123_0 : σ123 29 1 = σ103 29 1 := by first | exact o123 1 (by decide) | exact congrFun (f123 29 (by decide)) 1
                    try have u123_1 : σ123 29 2 = σ103 29 2 := by first | exact o123 2 (by decide) | exact congrFun (f123 29 (by decide)) 2
                    try have u123_2 : σ123 29 3 = σ103 29 3 := by first | exact o123 3 (by decide) | exact congrFun (f123 29 (by decide)) 3
                    try have u123_3 : σ123 29 5 = σ103 29 5 := by first | exact o123 5 (by decide) | exact congrFun (f123 29 (by decide)) 5
                    try have u123_4 : σ123 29 7 = σ103 29 7 := by first | exact o123 7 (by decide) | exact congrFun (f123 29 (by decide)) 7
                    try have u123_5 : σ123 29 21 = σ103 29 21 := by first | exact o123 21 (by decide) | exact congrFun (f123 29 (by decide)) 21
                    try have u123_6 : σ123 29 26 = σ103 29 26 := by first | exact o123 26 (by decide) | exact congrFun (f123 29 (by decide)) 26
                    try have u123_7 : σ123 29 14 = σ103 29 14 := by first | exact o123 14 (by decide) | exact congrFun (f123 29 (by decide)) 14
                    try have u123_8 : σ123 29 15 = σ103 29 15 := by first | exact o123 15 (by decide) | exact congrFun (f123 29 (by decide)) 15
                    try have u123_9 : σ123 29 16 = σ103 29 16 := by first | exact o123 16 (by decide) | exact congrFun (f123 29 (by decide)) 16
                    try have u123_10 : σ123 29 17 = σ103 29 17 := by first | exact o123 17 (by decide) | exact congrFun (f123 29 (by decide)) 17
                    try have u123_11 : σ123 29 18 = σ103 29 18 := by first | exact o123 18 (by decide) | exact congrFun (f123 29 (by decide)) 18
                    refine pe_goto (t := 151) d_M_plain_126 ?_
                    refine pe_rv d_M_plain_151 ?_
                    first | exact ⟨hB, (fun b hb => (f123 b (by simp at hb ⊢; try omega)).trans ((f103 b (by simp at hb ⊢; try omega)).trans ((f83 b (by simp at hb ⊢; try omega)).trans ((f61 b (by simp at hb ⊢; try omega)).trans (rfl))))), (fun j hj => (o123 j (by simp at hj ⊢; try omega)).trans ((o103 j (by simp at hj ⊢; try omega)).trans ((o83 j (by simp at hj ⊢; try omega)).trans ((o61 j (by simp at hj ⊢; try omega)).trans (rfl))))), xx, ⟨by omega, by omega, by omega, by omega, by omega, by omega, by omega⟩⟩ | exact ⟨hB, (fun b hb => (f123 b (by simp at hb ⊢; try omega)).trans ((f103 b (by simp at hb ⊢; try omega)).trans ((f83 b (by simp at hb ⊢; try omega)).trans ((f61 b (by simp at hb ⊢; try omega)).trans (rfl))))), (fun j hj => (o123 j (by simp at hj ⊢; try omega)).trans ((o103 j (by simp at hj ⊢; try omega)).trans ((o83 j (by simp at hj ⊢; try omega)).trans ((o61 j (by simp at hj ⊢; try omega)).trans (rfl))))), pe_ME_g hM0 (by omega) (by omega) (by omega) ⟨by omega, by rw [show σ123 29 2 = σ 29 2 by omega]; exact hbg⟩ (by omega) ((f123 30 (by decide)).trans ((f103 30 (by decide)).trans ((f83 30 (by decide)).trans ((f61 30 (by decide)).trans (rfl))))) ((f123 31 (by decide)).trans ((f103 31 (by decide)).trans ((f83 31 (by decide)).trans ((f61 31 (by decide)).trans (rfl))))) ((f123 36 (by decide)).trans ((f103 36 (by decide)).trans ((f83 36 (by decide)).trans ((f61 36 (by decide)).trans (rfl))))) ((f123 32 (by decide)).trans ((f103 32 (by decide)).trans ((f83 32 (by decide)).trans ((f61 32 (by decide)).trans (rfl))))) ((f123 33 (by decide)).trans ((f103 33 (by decide)).trans ((f83 33 (by decide)).trans ((f61 33 (by decide)).trans (rfl))))) ((f123 34 (by decide)).trans ((f103 34 (by decide)).trans ((f83 34 (by decide)).trans ((f61 34 (by decide)).trans (rfl))))) ((f123 35 (by decide)).trans ((f103 35 (by decide)).trans ((f83 35 (by decide)).trans ((f61 35 (by decide)).trans (rfl))))), ⟨by omega, by omega, by omega, by omega, by omega, by omega, by omega⟩⟩
                  · skip
                    refine pe_sipush d_M_plain_114 ?_
                    refine pe_goto (t := 123) d_M_plain_117 ?_
                    refine pe_putiT f_M_193 g_11_18 d_M_plain_123 rfl rfl 18 rfl hB (by first | exact hB _ _ | exact hB0 _ _ | exact hBt _ _ | exact ⟨by omega, by omega⟩) (fun σ123 hB e123 o123 f123 => ?_)
                    try have u123_0 : σ123 29 1 = σ103 29 1 := by first | exact o123 1 (by decide) | exact congrFun (f123 29 (by decide)) 1
                    try have u123_1 : σ123 29 2 = σ103 29 2 := by first | exact o123 2 (by decide) | exact congrFun (f123 29 (by decide)) 2
                    try have u123_2 : σ123 29 3 = σ103 29 3 := by first | exact o123 3 (by decide) | exact congrFun (f123 29 (by decide)) 3
                    try have u123_3 : σ123 29 5 = σ103 29 5 := by first | exact o123 5 (by decide) | exact congrFun (f123 29 (by decide)) 5
                    try have u123_4 : σ123 29 7 = σ103 29 7 := by first | exact o123 7 (by decide) | exact congrFun (f123 29 (by decide)) 7
                    try have u123_5 : σ123 29 21 = σ103 29 21 := by first | exact o123 21 (by decide) | exact congrFun (f123 29 (by decide)) 21
                    try have u123_6 : σ123 29 26 = σ103 29 26 := by first | exact o123 26 (by decide) | exact congrFun (f123 29 (by decide)) 26
                    try have u123_7 : σ123 29 14 = σ103 29 14 := by first | exact o123 14 (by decide) | exact congrFun (f123 29 (by decide)) 14
                    try have u123_8 : σ123 29 15 = σ103 29 15 := by first | exact o123 15 (by decide) | exact congrFun (f123 29 (by decide)) 15
                    try have u123_9 : σ123 29 16 = σ103 29 16 := by first | exact o123 16 (by decide) | exact congrFun (f123 29 (by decide)) 16
                    try have u123_10 : σ123 29 17 = σ103 29 17 := by first | exact o123 17 (by decide) | exact congrFun (f123 29 (by decide)) 17
                    try have u123_11 : σ123 29 18 = σ103 29 18 := by first | exact o123 18 (by decide) | exact congrFun (f123 29 (by decide)) 18
                    refine pe_goto (t := 151) d_M_plain_126 ?_
                    refine pe_rv d_M_plain_151 ?_
                    first | exact ⟨hB, (fun b hb => (f123 b (by simp at hb ⊢; try omega)).trans ((f103 b (by simp at hb ⊢; try omega)).trans ((f83 b (by simp at hb ⊢; try omega)).trans ((f61 b (by simp at hb ⊢; try omega)).trans (rfl))))), (fun j hj => (o123 j (by simp at hj ⊢; try omega)).trans ((o103 j (by simp at hj ⊢; try omega)).trans ((o83 j (by simp at hj ⊢; try omega)).trans ((o61 j (by simp at hj ⊢; try omega)).trans (rfl))))), xx, ⟨by omega, by omega, by omega, by omega, by omega, by omega, by omega⟩⟩ | exact ⟨hB, (fun b hb => (f123 b (by simp at hb ⊢; try omega)).trans ((f103 b (by simp at hb ⊢; try omega)).trans ((f83 b (by simp at hb ⊢; try omega)).trans ((f61 b (by simp at hb ⊢; try omega)).trans (rfl))))), (fun j hj => (o123 j (by simp at hj ⊢; try omega)).trans ((o103 j (by simp at hj ⊢; try omega)).trans ((o83 j (by simp at hj ⊢; try omega)).trans ((o61 j (by simp at hj ⊢; try omega)).trans (rfl))))), pe_ME_g hM0 (by omega) (by omega) (by omega) ⟨by omega, by rw [show σ123 29 2 = σ 29 2 by omega]; exact hbg⟩ (by omega) ((f123 30 (by decide)).trans ((f103 30 (by decide)).trans ((f83 30 (by decide)).trans ((f61 30 (by decide)).trans (rfl))))) ((f123 31 (by decide)).trans ((f103 31 (by decide)).trans ((f83 31 (by decide)).trans ((f61 31 (by decide)).trans (rfl))))) ((f123 36 (by decide)).trans ((f103 36 (by decide)).trans ((f83 36 (by decide)).trans ((f61 36 (by decide)).trans (rfl))))) ((f123 32 (by decide)).trans ((f103 32 (by decide)).trans ((f83 32 (by decide)).trans ((f61 32 (by decide)).trans (rfl))))) ((f123 33 (by decide)).trans ((f103 33 (by decide)).trans ((f83 33 (by decide)).trans ((f61 33 (by decide)).trans (rfl))))) ((f123 34 (by decide)).trans ((f103 34 (by decide)).trans ((f83 34 (by decide)).trans ((f61 34 (by decide)).trans (rfl))))) ((f123 35 (by decide)).trans ((f103 35 (by decide)).trans ((f83 35 (by decide)).trans ((f61 35 (by decide)).trans (rfl))))), ⟨by omega, by omega, by omega, by omega, by omega, by omega, by omega⟩⟩
              · skip
                refine pe_iload_n d_M_plain_72 rfl ?_
                refine pe_bipush d_M_plain_73 ?_
                refine pe_iand d_M_plain_75 (pe_and 5 32 (by omega) (by omega)) ?_
                refine pe_goto (t := 83) d_M_plain_76 ?_
                refine pe_putiT f_M_187 g_11_16 d_M_plain_83 rfl rfl 16 rfl hB (by first | exact hB _ _ | exact hB0 _ _ | exact hBt _ _ | exact ⟨by omega, by omega⟩) (fun σ83 hB e83 o83 f83 => ?_)
                try have u83_0 : σ83 29 1 = σ61 29 1 := by first | exact o83 1 (by decide) | exact congrFun (f83 29 (by decide)) 1
                try have u83_1 : σ83 29 2 = σ61 29 2 := by first | exact o83 2 (by decide) | exact congrFun (f83 29 (by decide)) 2
                try have u83_2 : σ83 29 3 = σ61 29 3 := by first | exact o83 3 (by decide) | exact congrFun (f83 29 (by decide)) 3
                try have u83_3 : σ83 29 5 = σ61 29 5 := by first | exact o83 5 (by decide) | exact congrFun (f83 29 (by decide)) 5
                try have u83_4 : σ83 29 7 = σ61 29 7 := by first | exact o83 7 (by decide) | exact congrFun (f83 29 (by decide)) 7
                try have u83_5 : σ83 29 21 = σ61 29 21 := by first | exact o83 21 (by decide) | exact congrFun (f83 29 (by decide)) 21
                try have u83_6 : σ83 29 26 = σ61 29 26 := by first | exact o83 26 (by decide) | exact congrFun (f83 29 (by decide)) 26
                try have u83_7 : σ83 29 14 = σ61 29 14 := by first | exact o83 14 (by decide) | exact congrFun (f83 29 (by decide)) 14
                try have u83_8 : σ83 29 15 = σ61 29 15 := by first | exact o83 15 (by decide) | exact congrFun (f83 29 (by decide)) 15
                try have u83_9 : σ83 29 16 = σ61 29 16 := by first | exact o83 16 (by decide) | exact congrFun (f83 29 (by decide)) 16
                try have u83_10 : σ83 29 17 = σ61 29 17 := by first | exact o83 17 (by decide) | exact congrFun (f83 29 (by decide)) 17
                try have u83_11 : σ83 29 18 = σ61 29 18 := by first | exact o83 18 (by decide) | exact congrFun (f83 29 (by decide)) 18
                refine pe_aload_n d_M_plain_86 rfl ?_
                refine pe_iload_n d_M_plain_87 rfl ?_
                refine pe_sipush d_M_plain_88 ?_
                refine pe_icmp_ne (t := 100) d_M_plain_91 (by first | exact hB _ _ | exact hB0 _ _ | exact hBt _ _ | exact ⟨by omega, by omega⟩) (by first | exact hB _ _ | exact hB0 _ _ | exact hBt _ _ | exact ⟨by omega, by omega⟩) (fun h91 => ?_) (fun h91 => ?_)
                · skip
                  refine pe_sipush d_M_plain_100 ?_
                  refine pe_putiT f_M_190 g_11_17 d_M_plain_103 rfl rfl 17 rfl hB (by first | exact hB _ _ | exact hB0 _ _ | exact hBt _ _ | exact ⟨by omega, by omega⟩) (fun σ103 hB e103 o103 f103 => ?_)
                  try have u103_0 : σ103 29 1 = σ83 29 1 := by first | exact o103 1 (by decide) | exact congrFun (f103 29 (by decide)) 1
                  try have u103_1 : σ103 29 2 = σ83 29 2 := by first | exact o103 2 (by decide) | exact congrFun (f103 29 (by decide)) 2
                  try have u103_2 : σ103 29 3 = σ83 29 3 := by first | exact o103 3 (by decide) | exact congrFun (f103 29 (by decide)) 3
                  try have u103_3 : σ103 29 5 = σ83 29 5 := by first | exact o103 5 (by decide) | exact congrFun (f103 29 (by decide)) 5
                  try have u103_4 : σ103 29 7 = σ83 29 7 := by first | exact o103 7 (by decide) | exact congrFun (f103 29 (by decide)) 7
                  try have u103_5 : σ103 29 21 = σ83 29 21 := by first | exact o103 21 (by decide) | exact congrFun (f103 29 (by decide)) 21
                  try have u103_6 : σ103 29 26 = σ83 29 26 := by first | exact o103 26 (by decide) | exact congrFun (f103 29 (by decide)) 26
                  try have u103_7 : σ103 29 14 = σ83 29 14 := by first | exact o103 14 (by decide) | exact congrFun (f103 29 (by decide)) 14
                  try have u103_8 : σ103 29 15 = σ83 29 15 := by first | exact o103 15 (by decide) | exact congrFun (f103 29 (by decide)) 15
                  try have u103_9 : σ103 29 16 = σ83 29 16 := by first | exact o103 16 (by decide) | exact congrFun (f103 29 (by decide)) 16
                  try have u103_10 : σ103 29 17 = σ83 29 17 := by first | exact o103 17 (by decide) | exact congrFun (f103 29 (by decide)) 17
                  try have u103_11 : σ103 29 18 = σ83 29 18 := by first | exact o103 18 (by decide) | exact congrFun (f103 29 (by decide)) 18
                  refine pe_aload_n d_M_plain_106 rfl ?_
                  refine pe_iload_n d_M_plain_107 rfl ?_
                  refine pe_sipush d_M_plain_108 ?_
                  refine pe_icmp_ne (t := 120) d_M_plain_111 (by first | exact hB _ _ | exact hB0 _ _ | exact hBt _ _ | exact ⟨by omega, by omega⟩) (by first | exact hB _ _ | exact hB0 _ _ | exact hBt _ _ | exact ⟨by omega, by omega⟩) (fun h111 => ?_) (fun h111 => ?_)
                  · skip
                    refine pe_sipush d_M_plain_120 ?_
                    refine pe_putiT f_M_193 g_11_18 d_M_plain_123 rfl rfl 18 rfl hB (by first | exact hB _ _ | exact hB0 _ _ | exact hBt _ _ | exact ⟨by omega, by omega⟩) (fun σ123 hB e123 o123 f123 => ?_)
                    try have u123_0 : σ123 29 1 = σ103 29 1 := by first | exact o123 1 (by decide) | exact congrFun (f123 29 (by decide)) 1
                    try have u123_1 : σ123 29 2 = σ103 29 2 := by first | exact o123 2 (by decide) | exact congrFun (f123 29 (by decide)) 2
                    try have u123_2 : σ123 29 3 = σ103 29 3 := by first | exact o123 3 (by decide) | exact congrFun (f123 29 (by decide)) 3
                    try have u123_3 : σ123 29 5 = σ103 29 5 := by first | exact o123 5 (by decide) | exact congrFun (f123 29 (by decide)) 5
                    try have u123_4 : σ123 29 7 = σ103 29 7 := by first | exact o123 7 (by decide) | exact congrFun (f123 29 (by decide)) 7
                    try have u123_5 : σ123 29 21 = σ103 29 21 := by first | exact o123 21 (by decide) | exact congrFun (f123 29 (by decide)) 21
                    try have u123_6 : σ123 29 26 = σ103 29 26 := by first | exact o123 26 (by decide) | exact congrFun (f123 29 (by decide)) 26
                    try have u123_7 : σ123 29 14 = σ103 29 14 := by first | exact o123 14 (by decide) | exact congrFun (f123 29 (by decide)) 14
                    try have u123_8 : σ123 29 15 = σ103 29 15 := by first | exact o123 15 (by decide) | exact congrFun (f123 29 (by decide)) 15
                    try have u123_9 : σ123 29 16 = σ103 29 16 := by first | exact o123 16 (by decide) | exact congrFun (f123 29 (by decide)) 16
                    try have u123_10 : σ123 29 17 = σ103 29 17 := by first | exact o123 17 (by decide) | exact congrFun (f123 29 (by decide)) 17
                    try have u123_11 : σ123 29 18 = σ103 29 18 := by first | exact o123 18 (by decide) | exact congrFun (f123 29 (by decide)) 18
                    refine pe_goto (t := 151) d_M_plain_126 ?_
                    refine pe_rv d_M_plain_151 ?_
                    first | exact ⟨hB, (fun b hb => (f123 b (by simp at hb ⊢; try omega)).trans ((f103 b (by simp at hb ⊢; try omega)).trans ((f83 b (by simp at hb ⊢; try omega)).trans ((f61 b (by simp at hb ⊢; try omega)).trans (rfl))))), (fun j hj => (o123 j (by simp at hj ⊢; try omega)).trans ((o103 j (by simp at hj ⊢; try omega)).trans ((o83 j (by simp at hj ⊢; try omega)).trans ((o61 j (by simp at hj ⊢; try omega)).trans (rfl))))), xx, ⟨by omega, by omega, by omega, by omega, by omega, by omega, by omega⟩⟩ | exact ⟨hB, (fun b hb => (f123 b (by simp at hb ⊢; try omega)).trans ((f103 b (by simp at hb ⊢; try omega)).trans ((f83 b (by simp at hb ⊢; try omega)).trans ((f61 b (by simp at hb ⊢; try omega)).trans (rfl))))), (fun j hj => (o123 j (by simp at hj ⊢; try omega)).trans ((o103 j (by simp at hj ⊢; try omega)).trans ((o83 j (by simp at hj ⊢; try omega)).trans ((o61 j (by simp at hj ⊢; try omega)).trans (rfl))))), pe_ME_g hM0 (by omega) (by omega) (by omega) ⟨by omega, by rw [show σ123 29 2 = σ 29 2 by omega]; exact hbg⟩ (by omega) ((f123 30 (by decide)).trans ((f103 30 (by decide)).trans ((f83 30 (by decide)).trans ((f61 30 (by decide)).trans (rfl))))) ((f123 31 (by decide)).trans ((f103 31 (by decide)).trans ((f83 31 (by decide)).trans ((f61 31 (by decide)).trans (rfl))))) ((f123 36 (by decide)).trans ((f103 36 (by decide)).trans ((f83 36 (by decide)).trans ((f61 36 (by decide)).trans (rfl))))) ((f123 32 (by decide)).trans ((f103 32 (by decide)).trans ((f83 32 (by decide)).trans ((f61 32 (by decide)).trans (rfl))))) ((f123 33 (by decide)).trans ((f103 33 (by decide)).trans ((f83 33 (by decide)).trans ((f61 33 (by decide)).trans (rfl))))) ((f123 34 (by decide)).trans ((f103 34 (by decide)).trans ((f83 34 (by decide)).trans ((f61 34 (by decide)).trans (rfl))))) ((f123 35 (by decide)).trans ((f103 35 (by decide)).trans ((f83 35 (by decide)).trans ((f61 35 (by decide)).trans (rfl))))), ⟨by omega, by omega, by omega, by omega, by omega, by omega, by omega⟩⟩
                  · skip
                    refine pe_sipush d_M_plain_114 ?_
                    refine pe_goto (t := 123) d_M_plain_117 ?_
                    refine pe_putiT f_M_193 g_11_18 d_M_plain_123 rfl rfl 18 rfl hB (by first | exact hB _ _ | exact hB0 _ _ | exact hBt _ _ | exact ⟨by omega, by omega⟩) (fun σ123 hB e123 o123 f123 => ?_)
                    try have u123_0 : σ123 29 1 = σ103 29 1 := by first | exact o123 1 (by decide) | exact congrFun (f123 29 (by decide)) 1
                    try have u123_1 : σ123 29 2 = σ103 29 2 := by first | exact o123 2 (by decide) | exact congrFun (f123 29 (by decide)) 2
                    try have u123_2 : σ123 29 3 = σ103 29 3 := by first | exact o123 3 (by decide) | exact congrFun (f123 29 (by decide)) 3
                    try have u123_3 : σ123 29 5 = σ103 29 5 := by first | exact o123 5 (by decide) | exact congrFun (f123 29 (by decide)) 5
                    try have u123_4 : σ123 29 7 = σ103 29 7 := by first | exact o123 7 (by decide) | exact congrFun (f123 29 (by decide)) 7
                    try have u123_5 : σ123 29 21 = σ103 29 21 := by first | exact o123 21 (by decide) | exact congrFun (f123 29 (by decide)) 21
                    try have u123_6 : σ123 29 26 = σ103 29 26 := by first | exact o123 26 (by decide) | exact congrFun (f123 29 (by decide)) 26
                    try have u123_7 : σ123 29 14 = σ103 29 14 := by first | exact o123 14 (by decide) | exact congrFun (f123 29 (by decide)) 14
                    try have u123_8 : σ123 29 15 = σ103 29 15 := by first | exact o123 15 (by decide) | exact congrFun (f123 29 (by decide)) 15
                    try have u123_9 : σ123 29 16 = σ103 29 16 := by first | exact o123 16 (by decide) | exact congrFun (f123 29 (by decide)) 16
                    try have u123_10 : σ123 29 17 = σ103 29 17 := by first | exact o123 17 (by decide) | exact congrFun (f123 29 (by decide)) 17
                    try have u123_11 : σ123 29 18 = σ103 29 18 := by first | exact o123 18 (by decide) | exact congrFun (f123 29 (by decide)) 18
                    refine pe_goto (t := 151) d_M_plain_126 ?_
                    refine pe_rv d_M_plain_151 ?_
                    first | exact ⟨hB, (fun b hb => (f123 b (by simp at hb ⊢; try omega)).trans ((f103 b (by simp at hb ⊢; try omega)).trans ((f83 b (by simp at hb ⊢; try omega)).trans ((f61 b (by simp at hb ⊢; try omega)).trans (rfl))))), (fun j hj => (o123 j (by simp at hj ⊢; try omega)).trans ((o103 j (by simp at hj ⊢; try omega)).trans ((o83 j (by simp at hj ⊢; try omega)).trans ((o61 j (by simp at hj ⊢; try omega)).trans (rfl))))), xx, ⟨by omega, by omega, by omega, by omega, by omega, by omega, by omega⟩⟩ | exact ⟨hB, (fun b hb => (f123 b (by simp at hb ⊢; try omega)).trans ((f103 b (by simp at hb ⊢; try omega)).trans ((f83 b (by simp at hb ⊢; try omega)).trans ((f61 b (by simp at hb ⊢; try omega)).trans (rfl))))), (fun j hj => (o123 j (by simp at hj ⊢; try omega)).trans ((o103 j (by simp at hj ⊢; try omega)).trans ((o83 j (by simp at hj ⊢; try omega)).trans ((o61 j (by simp at hj ⊢; try omega)).trans (rfl))))), pe_ME_g hM0 (by omega) (by omega) (by omega) ⟨by omega, by rw [show σ123 29 2 = σ 29 2 by omega]; exact hbg⟩ (by omega) ((f123 30 (by decide)).trans ((f103 30 (by decide)).trans ((f83 30 (by decide)).trans ((f61 30 (by decide)).trans (rfl))))) ((f123 31 (by decide)).trans ((f103 31 (by decide)).trans ((f83 31 (by decide)).trans ((f61 31 (by decide)).trans (rfl))))) ((f123 36 (by decide)).trans ((f103 36 (by decide)).trans ((f83 36 (by decide)).trans ((f61 36 (by decide)).trans (rfl))))) ((f123 32 (by decide)).trans ((f103 32 (by decide)).trans ((f83 32 (by decide)).trans ((f61 32 (by decide)).trans (rfl))))) ((f123 33 (by decide)).trans ((f103 33 (by decide)).trans ((f83 33 (by decide)).trans ((f61 33 (by decide)).trans (rfl))))) ((f123 34 (by decide)).trans ((f103 34 (by decide)).trans ((f83 34 (by decide)).trans ((f61 34 (by decide)).trans (rfl))))) ((f123 35 (by decide)).trans ((f103 35 (by decide)).trans ((f83 35 (by decide)).trans ((f61 35 (by decide)).trans (rfl))))), ⟨by omega, by omega, by omega, by omega, by omega, by omega, by omega⟩⟩
                · skip
                  refine pe_sipush d_M_plain_94 ?_
                  refine pe_goto (t := 103) d_M_plain_97 ?_
                  refine pe_putiT f_M_190 g_11_17 d_M_plain_103 rfl rfl 17 rfl hB (by first | exact hB _ _ | exact hB0 _ _ | exact hBt _ _ | exact ⟨by omega, by omega⟩) (fun σ103 hB e103 o103 f103 => ?_)
                  try have u103_0 : σ103 29 1 = σ83 29 1 := by first | exact o103 1 (by decide) | exact congrFun (f103 29 (by decide)) 1
                  try have u103_1 : σ103 29 2 = σ83 29 2 := by first | exact o103 2 (by decide) | exact congrFun (f103 29 (by decide)) 2
                  try have u103_2 : σ103 29 3 = σ83 29 3 := by first | exact o103 3 (by decide) | exact congrFun (f103 29 (by decide)) 3
                  try have u103_3 : σ103 29 5 = σ83 29 5 := by first | exact o103 5 (by decide) | exact congrFun (f103 29 (by decide)) 5
                  try have u103_4 : σ103 29 7 = σ83 29 7 := by first | exact o103 7 (by decide) | exact congrFun (f103 29 (by decide)) 7
                  try have u103_5 : σ103 29 21 = σ83 29 21 := by first | exact o103 21 (by decide) | exact congrFun (f103 29 (by decide)) 21
                  try have u103_6 : σ103 29 26 = σ83 29 26 := by first | exact o103 26 (by decide) | exact congrFun (f103 29 (by decide)) 26
                  try have u103_7 : σ103 29 14 = σ83 29 14 := by first | exact o103 14 (by decide) | exact congrFun (f103 29 (by decide)) 14
                  try have u103_8 : σ103 29 15 = σ83 29 15 := by first | exact o103 15 (by decide) | exact congrFun (f103 29 (by decide)) 15
                  try have u103_9 : σ103 29 16 = σ83 29 16 := by first | exact o103 16 (by decide) | exact congrFun (f103 29 (by decide)) 16
                  try have u103_10 : σ103 29 17 = σ83 29 17 := by first | exact o103 17 (by decide) | exact congrFun (f103 29 (by decide)) 17
                  try have u103_11 : σ103 29 18 = σ83 29 18 := by first | exact o103 18 (by decide) | exact congrFun (f103 29 (by decide)) 18
                  refine pe_aload_n d_M_plain_106 rfl ?_
                  refine pe_iload_n d_M_plain_107 rfl ?_
                  refine pe_sipush d_M_plain_108 ?_
                  refine pe_icmp_ne (t := 120) d_M_plain_111 (by first | exact hB _ _ | exact hB0 _ _ | exact hBt _ _ | exact ⟨by omega, by omega⟩) (by first | exact hB _ _ | exact hB0 _ _ | exact hBt _ _ | exact ⟨by omega, by omega⟩) (fun h111 => ?_) (fun h111 => ?_)
                  · skip
                    refine pe_sipush d_M_plain_120 ?_
                    refine pe_putiT f_M_193 g_11_18 d_M_plain_123 rfl rfl 18 rfl hB (by first | exact hB _ _ | exact hB0 _ _ | exact hBt _ _ | exact ⟨by omega, by omega⟩) (fun σ123 hB e123 o123 f123 => ?_)
                    try have u123_0 : σ123 29 1 = σ103 29 1 := by first | exact o123 1 (by decide) | exact congrFun (f123 29 (by decide)) 1
                    try have u123_1 : σ123 29 2 = σ103 29 2 := by first | exact o123 2 (by decide) | exact congrFun (f123 29 (by decide)) 2
                    try have u123_2 : σ123 29 3 = σ103 29 3 := by first | exact o123 3 (by decide) | exact congrFun (f123 29 (by decide)) 3
                    try have u123_3 : σ123 29 5 = σ103 29 5 := by first | exact o123 5 (by decide) | exact congrFun (f123 29 (by decide)) 5
                    try have u123_4 : σ123 29 7 = σ103 29 7 := by first | exact o123 7 (by decide) | exact congrFun (f123 29 (by decide)) 7
                    try have u123_5 : σ123 29 21 = σ103 29 21 := by first | exact o123 21 (by decide) | exact congrFun (f123 29 (by decide)) 21
                    try have u123_6 : σ123 29 26 = σ103 29 26 := by first | exact o123 26 (by decide) | exact congrFun (f123 29 (by decide)) 26
                    try have u123_7 : σ123 29 14 = σ103 29 14 := by first | exact o123 14 (by decide) | exact congrFun (f123 29 (by decide)) 14
                    try have u123_8 : σ123 29 15 = σ103 29 15 := by first | exact o123 15 (by decide) | exact congrFun (f123 29 (by decide)) 15
                    try have u123_9 : σ123 29 16 = σ103 29 16 := by first | exact o123 16 (by decide) | exact congrFun (f123 29 (by decide)) 16
                    try have u123_10 : σ123 29 17 = σ103 29 17 := by first | exact o123 17 (by decide) | exact congrFun (f123 29 (by decide)) 17
                    try have u123_11 : σ123 29 18 = σ103 29 18 := by first | exact o123 18 (by decide) | exact congrFun (f123 29 (by decide)) 18
                    refine pe_goto (t := 151) d_M_plain_126 ?_
                    refine pe_rv d_M_plain_151 ?_
                    first | exact ⟨hB, (fun b hb => (f123 b (by simp at hb ⊢; try omega)).trans ((f103 b (by simp at hb ⊢; try omega)).trans ((f83 b (by simp at hb ⊢; try omega)).trans ((f61 b (by simp at hb ⊢; try omega)).trans (rfl))))), (fun j hj => (o123 j (by simp at hj ⊢; try omega)).trans ((o103 j (by simp at hj ⊢; try omega)).trans ((o83 j (by simp at hj ⊢; try omega)).trans ((o61 j (by simp at hj ⊢; try omega)).trans (rfl))))), xx, ⟨by omega, by omega, by omega, by omega, by omega, by omega, by omega⟩⟩ | exact ⟨hB, (fun b hb => (f123 b (by simp at hb ⊢; try omega)).trans ((f103 b (by simp at hb ⊢; try omega)).trans ((f83 b (by simp at hb ⊢; try omega)).trans ((f61 b (by simp at hb ⊢; try omega)).trans (rfl))))), (fun j hj => (o123 j (by simp at hj ⊢; try omega)).trans ((o103 j (by simp at hj ⊢; try omega)).trans ((o83 j (by simp at hj ⊢; try omega)).trans ((o61 j (by simp at hj ⊢; try omega)).trans (rfl))))), pe_ME_g hM0 (by omega) (by omega) (by omega) ⟨by omega, by rw [show σ123 29 2 = σ 29 2 by omega]; exact hbg⟩ (by omega) ((f123 30 (by decide)).trans ((f103 30 (by decide)).trans ((f83 30 (by decide)).trans ((f61 30 (by decide)).trans (rfl))))) ((f123 31 (by decide)).trans ((f103 31 (by decide)).trans ((f83 31 (by decide)).trans ((f61 31 (by decide)).trans (rfl))))) ((f123 36 (by decide)).trans ((f103 36 (by decide)).trans ((f83 36 (by decide)).trans ((f61 36 (by decide)).trans (rfl))))) ((f123 32 (by decide)).trans ((f103 32 (by decide)).trans ((f83 32 (by decide)).trans ((f61 32 (by decide)).trans (rfl))))) ((f123 33 (by decide)).trans ((f103 33 (by decide)).trans ((f83 33 (by decide)).trans ((f61 33 (by decide)).trans (rfl))))) ((f123 34 (by decide)).trans ((f103 34 (by decide)).trans ((f83 34 (by decide)).trans ((f61 34 (by decide)).trans (rfl))))) ((f123 35 (by decide)).trans ((f103 35 (by decide)).trans ((f83 35 (by decide)).trans ((f61 35 (by decide)).trans (rfl))))), ⟨by omega, by omega, by omega, by omega, by omega, by omega, by omega⟩⟩
                  · skip
                    refine pe_sipush d_M_plain_114 ?_
                    refine pe_goto (t := 123) d_M_plain_117 ?_
                    refine pe_putiT f_M_193 g_11_18 d_M_plain_123 rfl rfl 18 rfl hB (by first | exact hB _ _ | exact hB0 _ _ | exact hBt _ _ | exact ⟨by omega, by omega⟩) (fun σ123 hB e123 o123 f123 => ?_)
                    try have u123_0 : σ123 29 1 = σ103 29 1 := by first | exact o123 1 (by decide) | exact congrFun (f123 29 (by decide)) 1
                    try have u123_1 : σ123 29 2 = σ103 29 2 := by first | exact o123 2 (by decide) | exact congrFun (f123 29 (by decide)) 2
                    try have u123_2 : σ123 29 3 = σ103 29 3 := by first | exact o123 3 (by decide) | exact congrFun (f123 29 (by decide)) 3
                    try have u123_3 : σ123 29 5 = σ103 29 5 := by first | exact o123 5 (by decide) | exact congrFun (f123 29 (by decide)) 5
                    try have u123_4 : σ123 29 7 = σ103 29 7 := by first | exact o123 7 (by decide) | exact congrFun (f123 29 (by decide)) 7
                    try have u123_5 : σ123 29 21 = σ103 29 21 := by first | exact o123 21 (by decide) | exact congrFun (f123 29 (by decide)) 21
                    try have u123_6 : σ123 29 26 = σ103 29 26 := by first | exact o123 26 (by decide) | exact congrFun (f123 29 (by decide)) 26
                    try have u123_7 : σ123 29 14 = σ103 29 14 := by first | exact o123 14 (by decide) | exact congrFun (f123 29 (by decide)) 14
                    try have u123_8 : σ123 29 15 = σ103 29 15 := by first | exact o123 15 (by decide) | exact congrFun (f123 29 (by decide)) 15
                    try have u123_9 : σ123 29 16 = σ103 29 16 := by first | exact o123 16 (by decide) | exact congrFun (f123 29 (by decide)) 16
                    try have u123_10 : σ123 29 17 = σ103 29 17 := by first | exact o123 17 (by decide) | exact congrFun (f123 29 (by decide)) 17
                    try have u123_11 : σ123 29 18 = σ103 29 18 := by first | exact o123 18 (by decide) | exact congrFun (f123 29 (by decide)) 18
                    refine pe_goto (t := 151) d_M_plain_126 ?_
                    refine pe_rv d_M_plain_151 ?_
                    first | exact ⟨hB, (fun b hb => (f123 b (by simp at hb ⊢; try omega)).trans ((f103 b (by simp at hb ⊢; try omega)).trans ((f83 b (by simp at hb ⊢; try omega)).trans ((f61 b (by simp at hb ⊢; try omega)).trans (rfl))))), (fun j hj => (o123 j (by simp at hj ⊢; try omega)).trans ((o103 j (by simp at hj ⊢; try omega)).trans ((o83 j (by simp at hj ⊢; try omega)).trans ((o61 j (by simp at hj ⊢; try omega)).trans (rfl))))), xx, ⟨by omega, by omega, by omega, by omega, by omega, by omega, by omega⟩⟩ | exact ⟨hB, (fun b hb => (f123 b (by simp at hb ⊢; try omega)).trans ((f103 b (by simp at hb ⊢; try omega)).trans ((f83 b (by simp at hb ⊢; try omega)).trans ((f61 b (by simp at hb ⊢; try omega)).trans (rfl))))), (fun j hj => (o123 j (by simp at hj ⊢; try omega)).trans ((o103 j (by simp at hj ⊢; try omega)).trans ((o83 j (by simp at hj ⊢; try omega)).trans ((o61 j (by simp at hj ⊢; try omega)).trans (rfl))))), pe_ME_g hM0 (by omega) (by omega) (by omega) ⟨by omega, by rw [show σ123 29 2 = σ 29 2 by omega]; exact hbg⟩ (by omega) ((f123 30 (by decide)).trans ((f103 30 (by decide)).trans ((f83 30 (by decide)).trans ((f61 30 (by decide)).trans (rfl))))) ((f123 31 (by decide)).trans ((f103 31 (by decide)).trans ((f83 31 (by decide)).trans ((f61 31 (by decide)).trans (rfl))))) ((f123 36 (by decide)).trans ((f103 36 (by decide)).trans ((f83 36 (by decide)).trans ((f61 36 (by decide)).trans (rfl))))) ((f123 32 (by decide)).trans ((f103 32 (by decide)).trans ((f83 32 (by decide)).trans ((f61 32 (by decide)).trans (rfl))))) ((f123 33 (by decide)).trans ((f103 33 (by decide)).trans ((f83 33 (by decide)).trans ((f61 33 (by decide)).trans (rfl))))) ((f123 34 (by decide)).trans ((f103 34 (by decide)).trans ((f83 34 (by decide)).trans ((f61 34 (by decide)).trans (rfl))))) ((f123 35 (by decide)).trans ((f103 35 (by decide)).trans ((f83 35 (by decide)).trans ((f61 35 (by decide)).trans (rfl))))), ⟨by omega, by omega, by omega, by omega, by omega, by omega, by omega⟩⟩
            · skip
              refine pe_iconst d_M_plain_56 ?_
              refine pe_goto (t := 61) d_M_plain_57 ?_
              refine pe_putiT f_M_184 g_11_15 d_M_plain_61 rfl rfl 15 rfl hB (by first | exact hB _ _ | exact hB0 _ _ | exact hBt _ _ | exact ⟨by omega, by omega⟩) (fun σ61 hB e61 o61 f61 => ?_)
              try have u61_0 : σ61 29 1 = σ 29 1 := by first | exact o61 1 (by decide) | exact congrFun (f61 29 (by decide)) 1
              try have u61_1 : σ61 29 2 = σ 29 2 := by first | exact o61 2 (by decide) | exact congrFun (f61 29 (by decide)) 2
              try have u61_2 : σ61 29 3 = σ 29 3 := by first | exact o61 3 (by decide) | exact congrFun (f61 29 (by decide)) 3
              try have u61_3 : σ61 29 5 = σ 29 5 := by first | exact o61 5 (by decide) | exact congrFun (f61 29 (by decide)) 5
              try have u61_4 : σ61 29 7 = σ 29 7 := by first | exact o61 7 (by decide) | exact congrFun (f61 29 (by decide)) 7
              try have u61_5 : σ61 29 21 = σ 29 21 := by first | exact o61 21 (by decide) | exact congrFun (f61 29 (by decide)) 21
              try have u61_6 : σ61 29 26 = σ 29 26 := by first | exact o61 26 (by decide) | exact congrFun (f61 29 (by decide)) 26
              try have u61_7 : σ61 29 14 = σ 29 14 := by first | exact o61 14 (by decide) | exact congrFun (f61 29 (by decide)) 14
              try have u61_8 : σ61 29 15 = σ 29 15 := by first | exact o61 15 (by decide) | exact congrFun (f61 29 (by decide)) 15
              try have u61_9 : σ61 29 16 = σ 29 16 := by first | exact o61 16 (by decide) | exact congrFun (f61 29 (by decide)) 16
              try have u61_10 : σ61 29 17 = σ 29 17 := by first | exact o61 17 (by decide) | exact congrFun (f61 29 (by decide)) 17
              try have u61_11 : σ61 29 18 = σ 29 18 := by first | exact o61 18 (by decide) | exact congrFun (f61 29 (by decide)) 18
              refine pe_aload_n d_M_plain_64 rfl ?_
              refine pe_iload_n d_M_plain_65 rfl ?_
              refine pe_sipush d_M_plain_66 ?_
              refine pe_icmp_ge (t := 79) d_M_plain_69 (by first | exact hB _ _ | exact hB0 _ _ | exact hBt _ _ | exact ⟨by omega, by omega⟩) (by first | exact hB _ _ | exact hB0 _ _ | exact hBt _ _ | exact ⟨by omega, by omega⟩) (fun h69 => ?_) (fun h69 => ?_)
              · skip
                refine pe_iload_n d_M_plain_79 rfl ?_
                refine pe_bipush d_M_plain_80 ?_
                refine pe_iand d_M_plain_82 (pe_and 4 16 (by omega) (by omega)) ?_
                refine pe_putiT f_M_187 g_11_16 d_M_plain_83 rfl rfl 16 rfl hB (by first | exact hB _ _ | exact hB0 _ _ | exact hBt _ _ | exact ⟨by omega, by omega⟩) (fun σ83 hB e83 o83 f83 => ?_)
                try have u83_0 : σ83 29 1 = σ61 29 1 := by first | exact o83 1 (by decide) | exact congrFun (f83 29 (by decide)) 1
                try have u83_1 : σ83 29 2 = σ61 29 2 := by first | exact o83 2 (by decide) | exact congrFun (f83 29 (by decide)) 2
                try have u83_2 : σ83 29 3 = σ61 29 3 := by first | exact o83 3 (by decide) | exact congrFun (f83 29 (by decide)) 3
                try have u83_3 : σ83 29 5 = σ61 29 5 := by first | exact o83 5 (by decide) | exact congrFun (f83 29 (by decide)) 5
                try have u83_4 : σ83 29 7 = σ61 29 7 := by first | exact o83 7 (by decide) | exact congrFun (f83 29 (by decide)) 7
                try have u83_5 : σ83 29 21 = σ61 29 21 := by first | exact o83 21 (by decide) | exact congrFun (f83 29 (by decide)) 21
                try have u83_6 : σ83 29 26 = σ61 29 26 := by first | exact o83 26 (by decide) | exact congrFun (f83 29 (by decide)) 26
                try have u83_7 : σ83 29 14 = σ61 29 14 := by first | exact o83 14 (by decide) | exact congrFun (f83 29 (by decide)) 14
                try have u83_8 : σ83 29 15 = σ61 29 15 := by first | exact o83 15 (by decide) | exact congrFun (f83 29 (by decide)) 15
                try have u83_9 : σ83 29 16 = σ61 29 16 := by first | exact o83 16 (by decide) | exact congrFun (f83 29 (by decide)) 16
                try have u83_10 : σ83 29 17 = σ61 29 17 := by first | exact o83 17 (by decide) | exact congrFun (f83 29 (by decide)) 17
                try have u83_11 : σ83 29 18 = σ61 29 18 := by first | exact o83 18 (by decide) | exact congrFun (f83 29 (by decide)) 18
                refine pe_aload_n d_M_plain_86 rfl ?_
                refine pe_iload_n d_M_plain_87 rfl ?_
                refine pe_sipush d_M_plain_88 ?_
                refine pe_icmp_ne (t := 100) d_M_plain_91 (by first | exact hB _ _ | exact hB0 _ _ | exact hBt _ _ | exact ⟨by omega, by omega⟩) (by first | exact hB _ _ | exact hB0 _ _ | exact hBt _ _ | exact ⟨by omega, by omega⟩) (fun h91 => ?_) (fun h91 => ?_)
                · skip
                  refine pe_sipush d_M_plain_100 ?_
                  refine pe_putiT f_M_190 g_11_17 d_M_plain_103 rfl rfl 17 rfl hB (by first | exact hB _ _ | exact hB0 _ _ | exact hBt _ _ | exact ⟨by omega, by omega⟩) (fun σ103 hB e103 o103 f103 => ?_)
                  try have u103_0 : σ103 29 1 = σ83 29 1 := by first | exact o103 1 (by decide) | exact congrFun (f103 29 (by decide)) 1
                  try have u103_1 : σ103 29 2 = σ83 29 2 := by first | exact o103 2 (by decide) | exact congrFun (f103 29 (by decide)) 2
                  try have u103_2 : σ103 29 3 = σ83 29 3 := by first | exact o103 3 (by decide) | exact congrFun (f103 29 (by decide)) 3
                  try have u103_3 : σ103 29 5 = σ83 29 5 := by first | exact o103 5 (by decide) | exact congrFun (f103 29 (by decide)) 5
                  try have u103_4 : σ103 29 7 = σ83 29 7 := by first | exact o103 7 (by decide) | exact congrFun (f103 29 (by decide)) 7
                  try have u103_5 : σ103 29 21 = σ83 29 21 := by first | exact o103 21 (by decide) | exact congrFun (f103 29 (by decide)) 21
                  try have u103_6 : σ103 29 26 = σ83 29 26 := by first | exact o103 26 (by decide) | exact congrFun (f103 29 (by decide)) 26
                  try have u103_7 : σ103 29 14 = σ83 29 14 := by first | exact o103 14 (by decide) | exact congrFun (f103 29 (by decide)) 14
                  try have u103_8 : σ103 29 15 = σ83 29 15 := by first | exact o103 15 (by decide) | exact congrFun (f103 29 (by decide)) 15
                  try have u103_9 : σ103 29 16 = σ83 29 16 := by first | exact o103 16 (by decide) | exact congrFun (f103 29 (by decide)) 16
                  try have u103_10 : σ103 29 17 = σ83 29 17 := by first | exact o103 17 (by decide) | exact congrFun (f103 29 (by decide)) 17
                  try have u103_11 : σ103 29 18 = σ83 29 18 := by first | exact o103 18 (by decide) | exact congrFun (f103 29 (by decide)) 18
                  refine pe_aload_n d_M_plain_106 rfl ?_
                  refine pe_iload_n d_M_plain_107 rfl ?_
                  refine pe_sipush d_M_plain_108 ?_
                  refine pe_icmp_ne (t := 120) d_M_plain_111 (by first | exact hB _ _ | exact hB0 _ _ | exact hBt _ _ | exact ⟨by omega, by omega⟩) (by first | exact hB _ _ | exact hB0 _ _ | exact hBt _ _ | exact ⟨by omega, by omega⟩) (fun h111 => ?_) (fun h111 => ?_)
                  · skip
                    refine pe_sipush d_M_plain_120 ?_
                    refine pe_putiT f_M_193 g_11_18 d_M_plain_123 rfl rfl 18 rfl hB (by first | exact hB _ _ | exact hB0 _ _ | exact hBt _ _ | exact ⟨by omega, by omega⟩) (fun σ123 hB e123 o123 f123 => ?_)
                    try have u123_0 : σ123 29 1 = σ103 29 1 := by first | exact o123 1 (by decide) | exact congrFun (f123 29 (by decide)) 1
                    try have u123_1 : σ123 29 2 = σ103 29 2 := by first | exact o123 2 (by decide) | exact congrFun (f123 29 (by decide)) 2
                    try have u123_2 : σ123 29 3 = σ103 29 3 := by first | exact o123 3 (by decide) | exact congrFun (f123 29 (by decide)) 3
                    try have u123_3 : σ123 29 5 = σ103 29 5 := by first | exact o123 5 (by decide) | exact congrFun (f123 29 (by decide)) 5
                    try have u123_4 : σ123 29 7 = σ103 29 7 := by first | exact o123 7 (by decide) | exact congrFun (f123 29 (by decide)) 7
                    try have u123_5 : σ123 29 21 = σ103 29 21 := by first | exact o123 21 (by decide) | exact congrFun (f123 29 (by decide)) 21
                    try have u123_6 : σ123 29 26 = σ103 29 26 := by first | exact o123 26 (by decide) | exact congrFun (f123 29 (by decide)) 26
                    try have u123_7 : σ123 29 14 = σ103 29 14 := by first | exact o123 14 (by decide) | exact congrFun (f123 29 (by decide)) 14
                    try have u123_8 : σ123 29 15 = σ103 29 15 := by first | exact o123 15 (by decide) | exact congrFun (f123 29 (by decide)) 15
                    try have u123_9 : σ123 29 16 = σ103 29 16 := by first | exact o123 16 (by decide) | exact congrFun (f123 29 (by decide)) 16
                    try have u123_10 : σ123 29 17 = σ103 29 17 := by first | exact o123 17 (by decide) | exact congrFun (f123 29 (by decide)) 17
                    try have u123_11 : σ123 29 18 = σ103 29 18 := by first | exact o123 18 (by decide) | exact congrFun (f123 29 (by decide)) 18
                    refine pe_goto (t := 151) d_M_plain_126 ?_
                    refine pe_rv d_M_plain_151 ?_
                    first | exact ⟨hB, (fun b hb => (f123 b (by simp at hb ⊢; try omega)).trans ((f103 b (by simp at hb ⊢; try omega)).trans ((f83 b (by simp at hb ⊢; try omega)).trans ((f61 b (by simp at hb ⊢; try omega)).trans (rfl))))), (fun j hj => (o123 j (by simp at hj ⊢; try omega)).trans ((o103 j (by simp at hj ⊢; try omega)).trans ((o83 j (by simp at hj ⊢; try omega)).trans ((o61 j (by simp at hj ⊢; try omega)).trans (rfl))))), xx, ⟨by omega, by omega, by omega, by omega, by omega, by omega, by omega⟩⟩ | exact ⟨hB, (fun b hb => (f123 b (by simp at hb ⊢; try omega)).trans ((f103 b (by simp at hb ⊢; try omega)).trans ((f83 b (by simp at hb ⊢; try omega)).trans ((f61 b (by simp at hb ⊢; try omega)).trans (rfl))))), (fun j hj => (o123 j (by simp at hj ⊢; try omega)).trans ((o103 j (by simp at hj ⊢; try omega)).trans ((o83 j (by simp at hj ⊢; try omega)).trans ((o61 j (by simp at hj ⊢; try omega)).trans (rfl))))), pe_ME_g hM0 (by omega) (by omega) (by omega) ⟨by omega, by rw [show σ123 29 2 = σ 29 2 by omega]; exact hbg⟩ (by omega) ((f123 30 (by decide)).trans ((f103 30 (by decide)).trans ((f83 30 (by decide)).trans ((f61 30 (by decide)).trans (rfl))))) ((f123 31 (by decide)).trans ((f103 31 (by decide)).trans ((f83 31 (by decide)).trans ((f61 31 (by decide)).trans (rfl))))) ((f123 36 (by decide)).trans ((f103 36 (by decide)).trans ((f83 36 (by decide)).trans ((f61 36 (by decide)).trans (rfl))))) ((f123 32 (by decide)).trans ((f103 32 (by decide)).trans ((f83 32 (by decide)).trans ((f61 32 (by decide)).trans (rfl))))) ((f123 33 (by decide)).trans ((f103 33 (by decide)).trans ((f83 33 (by decide)).trans ((f61 33 (by decide)).trans (rfl))))) ((f123 34 (by decide)).trans ((f103 34 (by decide)).trans ((f83 34 (by decide)).trans ((f61 34 (by decide)).trans (rfl))))) ((f123 35 (by decide)).trans ((f103 35 (by decide)).trans ((f83 35 (by decide)).trans ((f61 35 (by decide)).trans (rfl))))), ⟨by omega, by omega, by omega, by omega, by omega, by omega, by omega⟩⟩
                  · skip
                    refine pe_sipush d_M_plain_114 ?_
                    refine pe_goto (t := 123) d_M_plain_117 ?_
                    refine pe_putiT f_M_193 g_11_18 d_M_plain_123 rfl rfl 18 rfl hB (by first | exact hB _ _ | exact hB0 _ _ | exact hBt _ _ | exact ⟨by omega, by omega⟩) (fun σ123 hB e123 o123 f123 => ?_)
                    try have u123_0 : σ123 29 1 = σ103 29 1 := by first | exact o123 1 (by decide) | exact congrFun (f123 29 (by decide)) 1
                    try have u123_1 : σ123 29 2 = σ103 29 2 := by first | exact o123 2 (by decide) | exact congrFun (f123 29 (by decide)) 2
                    try have u123_2 : σ123 29 3 = σ103 29 3 := by first | exact o123 3 (by decide) | exact congrFun (f123 29 (by decide)) 3
                    try have u123_3 : σ123 29 5 = σ103 29 5 := by first | exact o123 5 (by decide) | exact congrFun (f123 29 (by decide)) 5
                    try have u123_4 : σ123 29 7 = σ103 29 7 := by first | exact o123 7 (by decide) | exact congrFun (f123 29 (by decide)) 7
                    try have u123_5 : σ123 29 21 = σ103 29 21 := by first | exact o123 21 (by decide) | exact congrFun (f123 29 (by decide)) 21
                    try have u123_6 : σ123 29 26 = σ103 29 26 := by first | exact o123 26 (by decide) | exact congrFun (f123 29 (by decide)) 26
                    try have u123_7 : σ123 29 14 = σ103 29 14 := by first | exact o123 14 (by decide) | exact congrFun (f123 29 (by decide)) 14
                    try have u123_8 : σ123 29 15 = σ103 29 15 := by first | exact o123 15 (by decide) | exact congrFun (f123 29 (by decide)) 15
                    try have u123_9 : σ123 29 16 = σ103 29 16 := by first | exact o123 16 (by decide) | exact congrFun (f123 29 (by decide)) 16
                    try have u123_10 : σ123 29 17 = σ103 29 17 := by first | exact o123 17 (by decide) | exact congrFun (f123 29 (by decide)) 17
                    try have u123_11 : σ123 29 18 = σ103 29 18 := by first | exact o123 18 (by decide) | exact congrFun (f123 29 (by decide)) 18
                    refine pe_goto (t := 151) d_M_plain_126 ?_
                    refine pe_rv d_M_plain_151 ?_
                    first | exact ⟨hB, (fun b hb => (f123 b (by simp at hb ⊢; try omega)).trans ((f103 b (by simp at hb ⊢; try omega)).trans ((f83 b (by simp at hb ⊢; try omega)).trans ((f61 b (by simp at hb ⊢; try omega)).trans (rfl))))), (fun j hj => (o123 j (by simp at hj ⊢; try omega)).trans ((o103 j (by simp at hj ⊢; try omega)).trans ((o83 j (by simp at hj ⊢; try omega)).trans ((o61 j (by simp at hj ⊢; try omega)).trans (rfl))))), xx, ⟨by omega, by omega, by omega, by omega, by omega, by omega, by omega⟩⟩ | exact ⟨hB, (fun b hb => (f123 b (by simp at hb ⊢; try omega)).trans ((f103 b (by simp at hb ⊢; try omega)).trans ((f83 b (by simp at hb ⊢; try omega)).trans ((f61 b (by simp at hb ⊢; try omega)).trans (rfl))))), (fun j hj => (o123 j (by simp at hj ⊢; try omega)).trans ((o103 j (by simp at hj ⊢; try omega)).trans ((o83 j (by simp at hj ⊢; try omega)).trans ((o61 j (by simp at hj ⊢; try omega)).trans (rfl))))), pe_ME_g hM0 (by omega) (by omega) (by omega) ⟨by omega, by rw [show σ123 29 2 = σ 29 2 by omega]; exact hbg⟩ (by omega) ((f123 30 (by decide)).trans ((f103 30 (by decide)).trans ((f83 30 (by decide)).trans ((f61 30 (by decide)).trans (rfl))))) ((f123 31 (by decide)).trans ((f103 31 (by decide)).trans ((f83 31 (by decide)).trans ((f61 31 (by decide)).trans (rfl))))) ((f123 36 (by decide)).trans ((f103 36 (by decide)).trans ((f83 36 (by decide)).trans ((f61 36 (by decide)).trans (rfl))))) ((f123 32 (by decide)).trans ((f103 32 (by decide)).trans ((f83 32 (by decide)).trans ((f61 32 (by decide)).trans (rfl))))) ((f123 33 (by decide)).trans ((f103 33 (by decide)).trans ((f83 33 (by decide)).trans ((f61 33 (by decide)).trans (rfl))))) ((f123 34 (by decide)).trans ((f103 34 (by decide)).trans ((f83 34 (by decide)).trans ((f61 34 (by decide)).trans (rfl))))) ((f123 35 (by decide)).trans ((f103 35 (by decide)).trans ((f83 35 (by decide)).trans ((f61 35 (by decide)).trans (rfl))))), ⟨by omega, by omega, by omega, by omega, by omega, by omega, by omega⟩⟩
                · skip
                  refine pe_sipush d_M_plain_94 ?_
                  refine pe_goto (t := 103) d_M_plain_97 ?_
                  refine pe_putiT f_M_190 g_11_17 d_M_plain_103 rfl rfl 17 rfl hB (by first | exact hB _ _ | exact hB0 _ _ | exact hBt _ _ | exact ⟨by omega, by omega⟩) (fun σ103 hB e103 o103 f103 => ?_)
                  try have u103_0 : σ103 29 1 = σ83 29 1 := by first | exact o103 1 (by decide) | exact congrFun (f103 29 (by decide)) 1
                  try have u103_1 : σ103 29 2 = σ83 29 2 := by first | exact o103 2 (by decide) | exact congrFun (f103 29 (by decide)) 2
                  try have u103_2 : σ103 29 3 = σ83 29 3 := by first | exact o103 3 (by decide) | exact congrFun (f103 29 (by decide)) 3
                  try have u103_3 : σ103 29 5 = σ83 29 5 := by first | exact o103 5 (by decide) | exact congrFun (f103 29 (by decide)) 5
                  try have u103_4 : σ103 29 7 = σ83 29 7 := by first | exact o103 7 (by decide) | exact congrFun (f103 29 (by decide)) 7
                  try have u103_5 : σ103 29 21 = σ83 29 21 := by first | exact o103 21 (by decide) | exact congrFun (f103 29 (by decide)) 21
                  try have u103_6 : σ103 29 26 = σ83 29 26 := by first | exact o103 26 (by decide) | exact congrFun (f103 29 (by decide)) 26
                  try have u103_7 : σ103 29 14 = σ83 29 14 := by first | exact o103 14 (by decide) | exact congrFun (f103 29 (by decide)) 14
                  try have u103_8 : σ103 29 15 = σ83 29 15 := by first | exact o103 15 (by decide) | exact congrFun (f103 29 (by decide)) 15
                  try have u103_9 : σ103 29 16 = σ83 29 16 := by first | exact o103 16 (by decide) | exact congrFun (f103 29 (by decide)) 16
                  try have u103_10 : σ103 29 17 = σ83 29 17 := by first | exact o103 17 (by decide) | exact congrFun (f103 29 (by decide)) 17
                  try have u103_11 : σ103 29 18 = σ83 29 18 := by first | exact o103 18 (by decide) | exact congrFun (f103 29 (by decide)) 18
                  refine pe_aload_n d_M_plain_106 rfl ?_
                  refine pe_iload_n d_M_plain_107 rfl ?_
                  refine pe_sipush d_M_plain_108 ?_
                  refine pe_icmp_ne (t := 120) d_M_plain_111 (by first | exact hB _ _ | exact hB0 _ _ | exact hBt _ _ | exact ⟨by omega, by omega⟩) (by first | exact hB _ _ | exact hB0 _ _ | exact hBt _ _ | exact ⟨by omega, by omega⟩) (fun h111 => ?_) (fun h111 => ?_)
                  · skip
                    refine pe_sipush d_M_plain_120 ?_
                    refine pe_putiT f_M_193 g_11_18 d_M_plain_123 rfl rfl 18 rfl hB (by first | exact hB _ _ | exact hB0 _ _ | exact hBt _ _ | exact ⟨by omega, by omega⟩) (fun σ123 hB e123 o123 f123 => ?_)
                    try have u123_0 : σ123 29 1 = σ103 29 1 := by first | exact o123 1 (by decide) | exact congrFun (f123 29 (by decide)) 1
                    try have u123_1 : σ123 29 2 = σ103 29 2 := by first | exact o123 2 (by decide) | exact congrFun (f123 29 (by decide)) 2
                    try have u123_2 : σ123 29 3 = σ103 29 3 := by first | exact o123 3 (by decide) | exact congrFun (f123 29 (by decide)) 3
                    try have u123_3 : σ123 29 5 = σ103 29 5 := by first | exact o123 5 (by decide) | exact congrFun (f123 29 (by decide)) 5
                    try have u123_4 : σ123 29 7 = σ103 29 7 := by first | exact o123 7 (by decide) | exact congrFun (f123 29 (by decide)) 7
                    try have u123_5 : σ123 29 21 = σ103 29 21 := by first | exact o123 21 (by decide) | exact congrFun (f123 29 (by decide)) 21
                    try have u123_6 : σ123 29 26 = σ103 29 26 := by first | exact o123 26 (by decide) | exact congrFun (f123 29 (by decide)) 26
                    try have u123_7 : σ123 29 14 = σ103 29 14 := by first | exact o123 14 (by decide) | exact congrFun (f123 29 (by decide)) 14
                    try have u123_8 : σ123 29 15 = σ103 29 15 := by first | exact o123 15 (by decide) | exact congrFun (f123 29 (by decide)) 15
                    try have u123_9 : σ123 29 16 = σ103 29 16 := by first | exact o123 16 (by decide) | exact congrFun (f123 29 (by decide)) 16
                    try have u123_10 : σ123 29 17 = σ103 29 17 := by first | exact o123 17 (by decide) | exact congrFun (f123 29 (by decide)) 17
                    try have u123_11 : σ123 29 18 = σ103 29 18 := by first | exact o123 18 (by decide) | exact congrFun (f123 29 (by decide)) 18
                    refine pe_goto (t := 151) d_M_plain_126 ?_
                    refine pe_rv d_M_plain_151 ?_
                    first | exact ⟨hB, (fun b hb => (f123 b (by simp at hb ⊢; try omega)).trans ((f103 b (by simp at hb ⊢; try omega)).trans ((f83 b (by simp at hb ⊢; try omega)).trans ((f61 b (by simp at hb ⊢; try omega)).trans (rfl))))), (fun j hj => (o123 j (by simp at hj ⊢; try omega)).trans ((o103 j (by simp at hj ⊢; try omega)).trans ((o83 j (by simp at hj ⊢; try omega)).trans ((o61 j (by simp at hj ⊢; try omega)).trans (rfl))))), xx, ⟨by omega, by omega, by omega, by omega, by omega, by omega, by omega⟩⟩ | exact ⟨hB, (fun b hb => (f123 b (by simp at hb ⊢; try omega)).trans ((f103 b (by simp at hb ⊢; try omega)).trans ((f83 b (by simp at hb ⊢; try omega)).trans ((f61 b (by simp at hb ⊢; try omega)).trans (rfl))))), (fun j hj => (o123 j (by simp at hj ⊢; try omega)).trans ((o103 j (by simp at hj ⊢; try omega)).trans ((o83 j (by simp at hj ⊢; try omega)).trans ((o61 j (by simp at hj ⊢; try omega)).trans (rfl))))), pe_ME_g hM0 (by omega) (by omega) (by omega) ⟨by omega, by rw [show σ123 29 2 = σ 29 2 by omega]; exact hbg⟩ (by omega) ((f123 30 (by decide)).trans ((f103 30 (by decide)).trans ((f83 30 (by decide)).trans ((f61 30 (by decide)).trans (rfl))))) ((f123 31 (by decide)).trans ((f103 31 (by decide)).trans ((f83 31 (by decide)).trans ((f61 31 (by decide)).trans (rfl))))) ((f123 36 (by decide)).trans ((f103 36 (by decide)).trans ((f83 36 (by decide)).trans ((f61 36 (by decide)).trans (rfl))))) ((f123 32 (by decide)).trans ((f103 32 (by decide)).trans ((f83 32 (by decide)).trans ((f61 32 (by decide)).trans (rfl))))) ((f123 33 (by decide)).trans ((f103 33 (by decide)).trans ((f83 33 (by decide)).trans ((f61 33 (by decide)).trans (rfl))))) ((f123 34 (by decide)).trans ((f103 34 (by decide)).trans ((f83 34 (by decide)).trans ((f61 34 (by decide)).trans (rfl))))) ((f123 35 (by decide)).trans ((f103 35 (by decide)).trans ((f83 35 (by decide)).trans ((f61 35 (by decide)).trans (rfl))))), ⟨by omega, by omega, by omega, by omega, by omega, by omega, by omega⟩⟩
                  · skip
                    refine pe_sipush d_M_plain_114 ?_
                    refine pe_goto (t := 123) d_M_plain_117 ?_
                    refine pe_putiT f_M_193 g_11_18 d_M_plain_123 rfl rfl 18 rfl hB (by first | exact hB _ _ | exact hB0 _ _ | exact hBt _ _ | exact ⟨by omega, by omega⟩) (fun σ123 hB e123 o123 f123 => ?_)
                    try have u123_0 : σ123 29 1 = σ103 29 1 := by first | exact o123 1 (by decide) | exact congrFun (f123 29 (by decide)) 1
                    try have u123_1 : σ123 29 2 = σ103 29 2 := by first | exact o123 2 (by decide) | exact congrFun (f123 29 (by decide)) 2
                    try have u123_2 : σ123 29 3 = σ103 29 3 := by first | exact o123 3 (by decide) | exact congrFun (f123 29 (by decide)) 3
                    try have u123_3 : σ123 29 5 = σ103 29 5 := by first | exact o123 5 (by decide) | exact congrFun (f123 29 (by decide)) 5
                    try have u123_4 : σ123 29 7 = σ103 29 7 := by first | exact o123 7 (by decide) | exact congrFun (f123 29 (by decide)) 7
                    try have u123_5 : σ123 29 21 = σ103 29 21 := by first | exact o123 21 (by decide) | exact congrFun (f123 29 (by decide)) 21
                    try have u123_6 : σ123 29 26 = σ103 29 26 := by first | exact o123 26 (by decide) | exact congrFun (f123 29 (by decide)) 26
                    try have u123_7 : σ123 29 14 = σ103 29 14 := by first | exact o123 14 (by decide) | exact congrFun (f123 29 (by decide)) 14
                    try have u123_8 : σ123 29 15 = σ103 29 15 := by first | exact o123 15 (by decide) | exact congrFun (f123 29 (by decide)) 15
                    try have u123_9 : σ123 29 16 = σ103 29 16 := by first | exact o123 16 (by decide) | exact congrFun (f123 29 (by decide)) 16
                    try have u123_10 : σ123 29 17 = σ103 29 17 := by first | exact o123 17 (by decide) | exact congrFun (f123 29 (by decide)) 17
                    try have u123_11 : σ123 29 18 = σ103 29 18 := by first | exact o123 18 (by decide) | exact congrFun (f123 29 (by decide)) 18
                    refine pe_goto (t := 151) d_M_plain_126 ?_
                    refine pe_rv d_M_plain_151 ?_
                    first | exact ⟨hB, (fun b hb => (f123 b (by simp at hb ⊢; try omega)).trans ((f103 b (by simp at hb ⊢; try omega)).trans ((f83 b (by simp at hb ⊢; try omega)).trans ((f61 b (by simp at hb ⊢; try omega)).trans (rfl))))), (fun j hj => (o123 j (by simp at hj ⊢; try omega)).trans ((o103 j (by simp at hj ⊢; try omega)).trans ((o83 j (by simp at hj ⊢; try omega)).trans ((o61 j (by simp at hj ⊢; try omega)).trans (rfl))))), xx, ⟨by omega, by omega, by omega, by omega, by omega, by omega, by omega⟩⟩ | exact ⟨hB, (fun b hb => (f123 b (by simp at hb ⊢; try omega)).trans ((f103 b (by simp at hb ⊢; try omega)).trans ((f83 b (by simp at hb ⊢; try omega)).trans ((f61 b (by simp at hb ⊢; try omega)).trans (rfl))))), (fun j hj => (o123 j (by simp at hj ⊢; try omega)).trans ((o103 j (by simp at hj ⊢; try omega)).trans ((o83 j (by simp at hj ⊢; try omega)).trans ((o61 j (by simp at hj ⊢; try omega)).trans (rfl))))), pe_ME_g hM0 (by omega) (by omega) (by omega) ⟨by omega, by rw [show σ123 29 2 = σ 29 2 by omega]; exact hbg⟩ (by omega) ((f123 30 (by decide)).trans ((f103 30 (by decide)).trans ((f83 30 (by decide)).trans ((f61 30 (by decide)).trans (rfl))))) ((f123 31 (by decide)).trans ((f103 31 (by decide)).trans ((f83 31 (by decide)).trans ((f61 31 (by decide)).trans (rfl))))) ((f123 36 (by decide)).trans ((f103 36 (by decide)).trans ((f83 36 (by decide)).trans ((f61 36 (by decide)).trans (rfl))))) ((f123 32 (by decide)).trans ((f103 32 (by decide)).trans ((f83 32 (by decide)).trans ((f61 32 (by decide)).trans (rfl))))) ((f123 33 (by decide)).trans ((f103 33 (by decide)).trans ((f83 33 (by decide)).trans ((f61 33 (by decide)).trans (rfl))))) ((f123 34 (by decide)).trans ((f103 34 (by decide)).trans ((f83 34 (by decide)).trans ((f61 34 (by decide)).trans (rfl))))) ((f123 35 (by decide)).trans ((f103 35 (by decide)).trans ((f83 35 (by decide)).trans ((f61 35 (by decide)).trans (rfl))))), ⟨by omega, by omega, by omega, by omega, by omega, by omega, by omega⟩⟩
              · skip
                refine pe_iload_n d_M_plain_72 rfl ?_
                refine pe_bipush d_M_plain_73 ?_
                refine pe_iand d_M_plain_75 (pe_and 5 32 (by omega) (by omega)) ?_
                refine pe_goto (t := 83) d_M_plain_76 ?_
                refine pe_putiT f_M_187 g_11_16 d_M_plain_83 rfl rfl 16 rfl hB (by first | exact hB _ _ | exact hB0 _ _ | exact hBt _ _ | exact ⟨by omega, by omega⟩) (fun σ83 hB e83 o83 f83 => ?_)
                try have u83_0 : σ83 29 1 = σ61 29 1 := by first | exact o83 1 (by decide) | exact congrFun (f83 29 (by decide)) 1
                try have u83_1 : σ83 29 2 = σ61 29 2 := by first | exact o83 2 (by decide) | exact congrFun (f83 29 (by decide)) 2
                try have u83_2 : σ83 29 3 = σ61 29 3 := by first | exact o83 3 (by decide) | exact congrFun (f83 29 (by decide)) 3
                try have u83_3 : σ83 29 5 = σ61 29 5 := by first | exact o83 5 (by decide) | exact congrFun (f83 29 (by decide)) 5
                try have u83_4 : σ83 29 7 = σ61 29 7 := by first | exact o83 7 (by decide) | exact congrFun (f83 29 (by decide)) 7
                try have u83_5 : σ83 29 21 = σ61 29 21 := by first | exact o83 21 (by decide) | exact congrFun (f83 29 (by decide)) 21
                try have u83_6 : σ83 29 26 = σ61 29 26 := by first | exact o83 26 (by decide) | exact congrFun (f83 29 (by decide)) 26
                try have u83_7 : σ83 29 14 = σ61 29 14 := by first | exact o83 14 (by decide) | exact congrFun (f83 29 (by decide)) 14
                try have u83_8 : σ83 29 15 = σ61 29 15 := by first | exact o83 15 (by decide) | exact congrFun (f83 29 (by decide)) 15
                try have u83_9 : σ83 29 16 = σ61 29 16 := by first | exact o83 16 (by decide) | exact congrFun (f83 29 (by decide)) 16
                try have u83_10 : σ83 29 17 = σ61 29 17 := by first | exact o83 17 (by decide) | exact congrFun (f83 29 (by decide)) 17
                try have u83_11 : σ83 29 18 = σ61 29 18 := by first | exact o83 18 (by decide) | exact congrFun (f83 29 (by decide)) 18
                refine pe_aload_n d_M_plain_86 rfl ?_
                refine pe_iload_n d_M_plain_87 rfl ?_
                refine pe_sipush d_M_plain_88 ?_
                refine pe_icmp_ne (t := 100) d_M_plain_91 (by first | exact hB _ _ | exact hB0 _ _ | exact hBt _ _ | exact ⟨by omega, by omega⟩) (by first | exact hB _ _ | exact hB0 _ _ | exact hBt _ _ | exact ⟨by omega, by omega⟩) (fun h91 => ?_) (fun h91 => ?_)
                · skip
                  refine pe_sipush d_M_plain_100 ?_
                  refine pe_putiT f_M_190 g_11_17 d_M_plain_103 rfl rfl 17 rfl hB (by first | exact hB _ _ | exact hB0 _ _ | exact hBt _ _ | exact ⟨by omega, by omega⟩) (fun σ103 hB e103 o103 f103 => ?_)
                  try have u103_0 : σ103 29 1 = σ83 29 1 := by first | exact o103 1 (by decide) | exact congrFun (f103 29 (by decide)) 1
                  try have u103_1 : σ103 29 2 = σ83 29 2 := by first | exact o103 2 (by decide) | exact congrFun (f103 29 (by decide)) 2
                  try have u103_2 : σ103 29 3 = σ83 29 3 := by first | exact o103 3 (by decide) | exact congrFun (f103 29 (by decide)) 3
                  try have u103_3 : σ103 29 5 = σ83 29 5 := by first | exact o103 5 (by decide) | exact congrFun (f103 29 (by decide)) 5
                  try have u103_4 : σ103 29 7 = σ83 29 7 := by first | exact o103 7 (by decide) | exact congrFun (f103 29 (by decide)) 7
                  try have u103_5 : σ103 29 21 = σ83 29 21 := by first | exact o103 21 (by decide) | exact congrFun (f103 29 (by decide)) 21
                  try have u103_6 : σ103 29 26 = σ83 29 26 := by first | exact o103 26 (by decide) | exact congrFun (f103 29 (by decide)) 26
                  try have u103_7 : σ103 29 14 = σ83 29 14 := by first | exact o103 14 (by decide) | exact congrFun (f103 29 (by decide)) 14
                  try have u103_8 : σ103 29 15 = σ83 29 15 := by first | exact o103 15 (by decide) | exact congrFun (f103 29 (by decide)) 15
                  try have u103_9 : σ103 29 16 = σ83 29 16 := by first | exact o103 16 (by decide) | exact congrFun (f103 29 (by decide)) 16
                  try have u103_10 : σ103 29 17 = σ83 29 17 := by first | exact o103 17 (by decide) | exact congrFun (f103 29 (by decide)) 17
                  try have u103_11 : σ103 29 18 = σ83 29 18 := by first | exact o103 18 (by decide) | exact congrFun (f103 29 (by decide)) 18
                  refine pe_aload_n d_M_plain_106 rfl ?_
                  refine pe_iload_n d_M_plain_107 rfl ?_
                  refine pe_sipush d_M_plain_108 ?_
                  refine pe_icmp_ne (t := 120) d_M_plain_111 (by first | exact hB _ _ | exact hB0 _ _ | exact hBt _ _ | exact ⟨by omega, by omega⟩) (by first | exact hB _ _ | exact hB0 _ _ | exact hBt _ _ | exact ⟨by omega, by omega⟩) (fun h111 => ?_) (fun h111 => ?_)
                  · skip
                    refine pe_sipush d_M_plain_120 ?_
                    refine pe_putiT f_M_193 g_11_18 d_M_plain_123 rfl rfl 18 rfl hB (by first | exact hB _ _ | exact hB0 _ _ | exact hBt _ _ | exact ⟨by omega, by omega⟩) (fun σ123 hB e123 o123 f123 => ?_)
                    try have u123_0 : σ123 29 1 = σ103 29 1 := by first | exact o123 1 (by decide) | exact congrFun (f123 29 (by decide)) 1
                    try have u123_1 : σ123 29 2 = σ103 29 2 := by first | exact o123 2 (by decide) | exact congrFun (f123 29 (by decide)) 2
                    try have u123_2 : σ123 29 3 = σ103 29 3 := by first | exact o123 3 (by decide) | exact congrFun (f123 29 (by decide)) 3
                    try have u123_3 : σ123 29 5 = σ103 29 5 := by first | exact o123 5 (by decide) | exact congrFun (f123 29 (by decide)) 5
                    try have u123_4 : σ123 29 7 = σ103 29 7 := by first | exact o123 7 (by decide) | exact congrFun (f123 29 (by decide)) 7
                    try have u123_5 : σ123 29 21 = σ103 29 21 := by first | exact o123 21 (by decide) | exact congrFun (f123 29 (by decide)) 21
                    try have u123_6 : σ123 29 26 = σ103 29 26 := by first | exact o123 26 (by decide) | exact congrFun (f123 29 (by decide)) 26
                    try have u123_7 : σ123 29 14 = σ103 29 14 := by first | exact o123 14 (by decide) | exact congrFun (f123 29 (by decide)) 14
                    try have u123_8 : σ123 29 15 = σ103 29 15 := by first | exact o123 15 (by decide) | exact congrFun (f123 29 (by decide)) 15
                    try have u123_9 : σ123 29 16 = σ103 29 16 := by first | exact o123 16 (by decide) | exact congrFun (f123 29 (by decide)) 16
                    try have u123_10 : σ123 29 17 = σ103 29 17 := by first | exact o123 17 (by decide) | exact congrFun (f123 29 (by decide)) 17
                    try have u123_11 : σ123 29 18 = σ103 29 18 := by first | exact o123 18 (by decide) | exact congrFun (f123 29 (by decide)) 18
                    refine pe_goto (t := 151) d_M_plain_126 ?_
                    refine pe_rv d_M_plain_151 ?_
                    first | exact ⟨hB, (fun b hb => (f123 b (by simp at hb ⊢; try omega)).trans ((f103 b (by simp at hb ⊢; try omega)).trans ((f83 b (by simp at hb ⊢; try omega)).trans ((f61 b (by simp at hb ⊢; try omega)).trans (rfl))))), (fun j hj => (o123 j (by simp at hj ⊢; try omega)).trans ((o103 j (by simp at hj ⊢; try omega)).trans ((o83 j (by simp at hj ⊢; try omega)).trans ((o61 j (by simp at hj ⊢; try omega)).trans (rfl))))), xx, ⟨by omega, by omega, by omega, by omega, by omega, by omega, by omega⟩⟩ | exact ⟨hB, (fun b hb => (f123 b (by simp at hb ⊢; try omega)).trans ((f103 b (by simp at hb ⊢; try omega)).trans ((f83 b (by simp at hb ⊢; try omega)).trans ((f61 b (by simp at hb ⊢; try omega)).trans (rfl))))), (fun j hj => (o123 j (by simp at hj ⊢; try omega)).trans ((o103 j (by simp at hj ⊢; try omega)).trans ((o83 j (by simp at hj ⊢; try omega)).trans ((o61 j (by simp at hj ⊢; try omega)).trans (rfl))))), pe_ME_g hM0 (by omega) (by omega) (by omega) ⟨by omega, by rw [show σ123 29 2 = σ 29 2 by omega]; exact hbg⟩ (by omega) ((f123 30 (by decide)).trans ((f103 30 (by decide)).trans ((f83 30 (by decide)).trans ((f61 30 (by decide)).trans (rfl))))) ((f123 31 (by decide)).trans ((f103 31 (by decide)).trans ((f83 31 (by decide)).trans ((f61 31 (by decide)).trans (rfl))))) ((f123 36 (by decide)).trans ((f103 36 (by decide)).trans ((f83 36 (by decide)).trans ((f61 36 (by decide)).trans (rfl))))) ((f123 32 (by decide)).trans ((f103 32 (by decide)).trans ((f83 32 (by decide)).trans ((f61 32 (by decide)).trans (rfl))))) ((f123 33 (by decide)).trans ((f103 33 (by decide)).trans ((f83 33 (by decide)).trans ((f61 33 (by decide)).trans (rfl))))) ((f123 34 (by decide)).trans ((f103 34 (by decide)).trans ((f83 34 (by decide)).trans ((f61 34 (by decide)).trans (rfl))))) ((f123 35 (by decide)).trans ((f103 35 (by decide)).trans ((f83 35 (by decide)).trans ((f61 35 (by decide)).trans (rfl))))), ⟨by omega, by omega, by omega, by omega, by omega, by omega, by omega⟩⟩
                  · skip
                    refine pe_sipush d_M_plain_114 ?_
                    refine pe_goto (t := 123) d_M_plain_117 ?_
                    refine pe_putiT f_M_193 g_11_18 d_M_plain_123 rfl rfl 18 rfl hB (by first | exact hB _ _ | exact hB0 _ _ | exact hBt _ _ | exact ⟨by omega, by omega⟩) (fun σ123 hB e123 o123 f123 => ?_)
                    try have u123_0 : σ123 29 1 = σ103 29 1 := by first | exact o123 1 (by decide) | exact congrFun (f123 29 (by decide)) 1
                    try have u123_1 : σ123 29 2 = σ103 29 2 := by first | exact o123 2 (by decide) | exact congrFun (f123 29 (by decide)) 2
                    try have u123_2 : σ123 29 3 = σ103 29 3 := by first | exact o123 3 (by decide) | exact congrFun (f123 29 (by decide)) 3
                    try have u123_3 : σ123 29 5 = σ103 29 5 := by first | exact o123 5 (by decide) | exact congrFun (f123 29 (by decide)) 5
                    try have u123_4 : σ123 29 7 = σ103 29 7 := by first | exact o123 7 (by decide) | exact congrFun (f123 29 (by decide)) 7
                    try have u123_5 : σ123 29 21 = σ103 29 21 := by first | exact o123 21 (by decide) | exact congrFun (f123 29 (by decide)) 21
                    try have u123_6 : σ123 29 26 = σ103 29 26 := by first | exact o123 26 (by decide) | exact congrFun (f123 29 (by decide)) 26
                    try have u123_7 : σ123 29 14 = σ103 29 14 := by first | exact o123 14 (by decide) | exact congrFun (f123 29 (by decide)) 14
                    try have u123_8 : σ123 29 15 = σ103 29 15 := by first | exact o123 15 (by decide) | exact congrFun (f123 29 (by decide)) 15
                    try have u123_9 : σ123 29 16 = σ103 29 16 := by first | exact o123 16 (by decide) | exact congrFun (f123 29 (by decide)) 16
                    try have u123_10 : σ123 29 17 = σ103 29 17 := by first | exact o123 17 (by decide) | exact congrFun (f123 29 (by decide)) 17
                    try have u123_11 : σ123 29 18 = σ103 29 18 := by first | exact o123 18 (by decide) | exact congrFun (f123 29 (by decide)) 18
                    refine pe_goto (t := 151) d_M_plain_126 ?_
                    refine pe_rv d_M_plain_151 ?_
                    first | exact ⟨hB, (fun b hb => (f123 b (by simp at hb ⊢; try omega)).trans ((f103 b (by simp at hb ⊢; try omega)).trans ((f83 b (by simp at hb ⊢; try omega)).trans ((f61 b (by simp at hb ⊢; try omega)).trans (rfl))))), (fun j hj => (o123 j (by simp at hj ⊢; try omega)).trans ((o103 j (by simp at hj ⊢; try omega)).trans ((o83 j (by simp at hj ⊢; try omega)).trans ((o61 j (by simp at hj ⊢; try omega)).trans (rfl))))), xx, ⟨by omega, by omega, by omega, by omega, by omega, by omega, by omega⟩⟩ | exact ⟨hB, (fun b hb => (f123 b (by simp at hb ⊢; try omega)).trans ((f103 b (by simp at hb ⊢; try omega)).trans ((f83 b (by simp at hb ⊢; try omega)).trans ((f61 b (by simp at hb ⊢; try omega)).trans (rfl))))), (fun j hj => (o123 j (by simp at hj ⊢; try omega)).trans ((o103 j (by simp at hj ⊢; try omega)).trans ((o83 j (by simp at hj ⊢; try omega)).trans ((o61 j (by simp at hj ⊢; try omega)).trans (rfl))))), pe_ME_g hM0 (by omega) (by omega) (by omega) ⟨by omega, by rw [show σ123 29 2 = σ 29 2 by omega]; exact hbg⟩ (by omega) ((f123 30 (by decide)).trans ((f103 30 (by decide)).trans ((f83 30 (by decide)).trans ((f61 30 (by decide)).trans (rfl))))) ((f123 31 (by decide)).trans ((f103 31 (by decide)).trans ((f83 31 (by decide)).trans ((f61 31 (by decide)).trans (rfl))))) ((f123 36 (by decide)).trans ((f103 36 (by decide)).trans ((f83 36 (by decide)).trans ((f61 36 (by decide)).trans (rfl))))) ((f123 32 (by decide)).trans ((f103 32 (by decide)).trans ((f83 32 (by decide)).trans ((f61 32 (by decide)).trans (rfl))))) ((f123 33 (by decide)).trans ((f103 33 (by decide)).trans ((f83 33 (by decide)).trans ((f61 33 (by decide)).trans (rfl))))) ((f123 34 (by decide)).trans ((f103 34 (by decide)).trans ((f83 34 (by decide)).trans ((f61 34 (by decide)).trans (rfl))))) ((f123 35 (by decide)).trans ((f103 35 (by decide)).trans ((f83 35 (by decide)).trans ((f61 35 (by decide)).trans (rfl))))), ⟨by omega, by omega, by omega, by omega, by omega, by omega, by omega⟩⟩
                · skip
                  refine pe_sipush d_M_plain_94 ?_
                  refine pe_goto (t := 103) d_M_plain_97 ?_
                  refine pe_putiT f_M_190 g_11_17 d_M_plain_103 rfl rfl 17 rfl hB (by first | exact hB _ _ | exact hB0 _ _ | exact hBt _ _ | exact ⟨by omega, by omega⟩) (fun σ103 hB e103 o103 f103 => ?_)
                  try have u103_0 : σ103 29 1 = σ83 29 1 := by first | exact o103 1 (by decide) | exact congrFun (f103 29 (by decide)) 1
                  try have u103_1 : σ103 29 2 = σ83 29 2 := by first | exact o103 2 (by decide) | exact congrFun (f103 29 (by decide)) 2
                  try have u103_2 : σ103 29 3 = σ83 29 3 := by first | exact o103 3 (by decide) | exact congrFun (f103 29 (by decide)) 3
                  try have u103_3 : σ103 29 5 = σ83 29 5 := by first | exact o103 5 (by decide) | exact congrFun (f103 29 (by decide)) 5
                  try have u103_4 : σ103 29 7 = σ83 29 7 := by first | exact o103 7 (by decide) | exact congrFun (f103 29 (by decide)) 7
                  try have u103_5 : σ103 29 21 = σ83 29 21 := by first | exact o103 21 (by decide) | exact congrFun (f103 29 (by decide)) 21
                  try have u103_6 : σ103 29 26 = σ83 29 26 := by first | exact o103 26 (by decide) | exact congrFun (f103 29 (by decide)) 26
                  try have u103_7 : σ103 29 14 = σ83 29 14 := by first | exact o103 14 (by decide) | exact congrFun (f103 29 (by decide)) 14
                  try have u103_8 : σ103 29 15 = σ83 29 15 := by first | exact o103 15 (by decide) | exact congrFun (f103 29 (by decide)) 15
                  try have u103_9 : σ103 29 16 = σ83 29 16 := by first | exact o103 16 (by decide) | exact congrFun (f103 29 (by decide)) 16
                  try have u103_10 : σ103 29 17 = σ83 29 17 := by first | exact o103 17 (by decide) | exact congrFun (f103 29 (by decide)) 17
                  try have u103_11 : σ103 29 18 = σ83 29 18 := by first | exact o103 18 (by decide) | exact congrFun (f103 29 (by decide)) 18
                  refine pe_aload_n d_M_plain_106 rfl ?_
                  refine pe_iload_n d_M_plain_107 rfl ?_
                  refine pe_sipush d_M_plain_108 ?_
                  refine pe_icmp_ne (t := 120) d_M_plain_111 (by first | exact hB _ _ | exact hB0 _ _ | exact hBt _ _ | exact ⟨by omega, by omega⟩) (by first | exact hB _ _ | exact hB0 _ _ | exact hBt _ _ | exact ⟨by omega, by omega⟩) (fun h111 => ?_) (fun h111 => ?_)
                  · skip
                    refine pe_sipush d_M_plain_120 ?_
                    refine pe_putiT f_M_193 g_11_18 d_M_plain_123 rfl rfl 18 rfl hB (by first | exact hB _ _ | exact hB0 _ _ | exact hBt _ _ | exact ⟨by omega, by omega⟩) (fun σ123 hB e123 o123 f123 => ?_)
                    try have u123_0 : σ123 29 1 = σ103 29 1 := by first | exact o123 1 (by decide) | exact congrFun (f123 29 (by decide)) 1
                    try have u123_1 : σ123 29 2 = σ103 29 2 := by first | exact o123 2 (by decide) | exact congrFun (f123 29 (by decide)) 2
                    try have u123_2 : σ123 29 3 = σ103 29 3 := by first | exact o123 3 (by decide) | exact congrFun (f123 29 (by decide)) 3
                    try have u123_3 : σ123 29 5 = σ103 29 5 := by first | exact o123 5 (by decide) | exact congrFun (f123 29 (by decide)) 5
                    try have u123_4 : σ123 29 7 = σ103 29 7 := by first | exact o123 7 (by decide) | exact congrFun (f123 29 (by decide)) 7
                    try have u123_5 : σ123 29 21 = σ103 29 21 := by first | exact o123 21 (by decide) | exact congrFun (f123 29 (by decide)) 21
                    try have u123_6 : σ123 29 26 = σ103 29 26 := by first | exact o123 26 (by decide) | exact congrFun (f123 29 (by decide)) 26
                    try have u123_7 : σ123 29 14 = σ103 29 14 := by first | exact o123 14 (by decide) | exact congrFun (f123 29 (by decide)) 14
                    try have u123_8 : σ123 29 15 = σ103 29 15 := by first | exact o123 15 (by decide) | exact congrFun (f123 29 (by decide)) 15
                    try have u123_9 : σ123 29 16 = σ103 29 16 := by first | exact o123 16 (by decide) | exact congrFun (f123 29 (by decide)) 16
                    try have u123_10 : σ123 29 17 = σ103 29 17 := by first | exact o123 17 (by decide) | exact congrFun (f123 29 (by decide)) 17
                    try have u123_11 : σ123 29 18 = σ103 29 18 := by first | exact o123 18 (by decide) | exact congrFun (f123 29 (by decide)) 18
                    refine pe_goto (t := 151) d_M_plain_126 ?_
                    refine pe_rv d_M_plain_151 ?_
                    first | exact ⟨hB, (fun b hb => (f123 b (by simp at hb ⊢; try omega)).trans ((f103 b (by simp at hb ⊢; try omega)).trans ((f83 b (by simp at hb ⊢; try omega)).trans ((f61 b (by simp at hb ⊢; try omega)).trans (rfl))))), (fun j hj => (o123 j (by simp at hj ⊢; try omega)).trans ((o103 j (by simp at hj ⊢; try omega)).trans ((o83 j (by simp at hj ⊢; try omega)).trans ((o61 j (by simp at hj ⊢; try omega)).trans (rfl))))), xx, ⟨by omega, by omega, by omega, by omega, by omega, by omega, by omega⟩⟩ | exact ⟨hB, (fun b hb => (f123 b (by simp at hb ⊢; try omega)).trans ((f103 b (by simp at hb ⊢; try omega)).trans ((f83 b (by simp at hb ⊢; try omega)).trans ((f61 b (by simp at hb ⊢; try omega)).trans (rfl))))), (fun j hj => (o123 j (by simp at hj ⊢; try omega)).trans ((o103 j (by simp at hj ⊢; try omega)).trans ((o83 j (by simp at hj ⊢; try omega)).trans ((o61 j (by simp at hj ⊢; try omega)).trans (rfl))))), pe_ME_g hM0 (by omega) (by omega) (by omega) ⟨by omega, by rw [show σ123 29 2 = σ 29 2 by omega]; exact hbg⟩ (by omega) ((f123 30 (by decide)).trans ((f103 30 (by decide)).trans ((f83 30 (by decide)).trans ((f61 30 (by decide)).trans (rfl))))) ((f123 31 (by decide)).trans ((f103 31 (by decide)).trans ((f83 31 (by decide)).trans ((f61 31 (by decide)).trans (rfl))))) ((f123 36 (by decide)).trans ((f103 36 (by decide)).trans ((f83 36 (by decide)).trans ((f61 36 (by decide)).trans (rfl))))) ((f123 32 (by decide)).trans ((f103 32 (by decide)).trans ((f83 32 (by decide)).trans ((f61 32 (by decide)).trans (rfl))))) ((f123 33 (by decide)).trans ((f103 33 (by decide)).trans ((f83 33 (by decide)).trans ((f61 33 (by decide)).trans (rfl))))) ((f123 34 (by decide)).trans ((f103 34 (by decide)).trans ((f83 34 (by decide)).trans ((f61 34 (by decide)).trans (rfl))))) ((f123 35 (by decide)).trans ((f103 35 (by decide)).trans ((f83 35 (by decide)).trans ((f61 35 (by decide)).trans (rfl))))), ⟨by omega, by omega, by omega, by omega, by omega, by omega, by omega⟩⟩
                  · skip
                    refine pe_sipush d_M_plain_114 ?_
                    refine pe_goto (t := 123) d_M_plain_117 ?_
                    refine pe_putiT f_M_193 g_11_18 d_M_plain_123 rfl rfl 18 rfl hB (by first | exact hB _ _ | exact hB0 _ _ | exact hBt _ _ | exact ⟨by omega, by omega⟩) (fun σ123 hB e123 o123 f123 => ?_)
                    try have u123_0 : σ123 29 1 = σ103 29 1 := by first | exact o123 1 (by decide) | exact congrFun (f123 29 (by decide)) 1
                    try have u123_1 : σ123 29 2 = σ103 29 2 := by first | exact o123 2 (by decide) | exact congrFun (f123 29 (by decide)) 2
                    try have u123_2 : σ123 29 3 = σ103 29 3 := by first | exact o123 3 (by decide) | exact congrFun (f123 29 (by decide)) 3
                    try have u123_3 : σ123 29 5 = σ103 29 5 := by first | exact o123 5 (by decide) | exact congrFun (f123 29 (by decide)) 5
                    try have u123_4 : σ123 29 7 = σ103 29 7 := by first | exact o123 7 (by decide) | exact congrFun (f123 29 (by decide)) 7
                    try have u123_5 : σ123 29 21 = σ103 29 21 := by first | exact o123 21 (by decide) | exact congrFun (f123 29 (by decide)) 21
                    try have u123_6 : σ123 29 26 = σ103 29 26 := by first | exact o123 26 (by decide) | exact congrFun (f123 29 (by decide)) 26
                    try have u123_7 : σ123 29 14 = σ103 29 14 := by first | exact o123 14 (by decide) | exact congrFun (f123 29 (by decide)) 14
                    try have u123_8 : σ123 29 15 = σ103 29 15 := by first | exact o123 15 (by decide) | exact congrFun (f123 29 (by decide)) 15
                    try have u123_9 : σ123 29 16 = σ103 29 16 := by first | exact o123 16 (by decide) | exact congrFun (f123 29 (by decide)) 16
                    try have u123_10 : σ123 29 17 = σ103 29 17 := by first | exact o123 17 (by decide) | exact congrFun (f123 29 (by decide)) 17
                    try have u123_11 : σ123 29 18 = σ103 29 18 := by first | exact o123 18 (by decide) | exact congrFun (f123 29 (by decide)) 18
                    refine pe_goto (t := 151) d_M_plain_126 ?_
                    refine pe_rv d_M_plain_151 ?_
                    first | exact ⟨hB, (fun b hb => (f123 b (by simp at hb ⊢; try omega)).trans ((f103 b (by simp at hb ⊢; try omega)).trans ((f83 b (by simp at hb ⊢; try omega)).trans ((f61 b (by simp at hb ⊢; try omega)).trans (rfl))))), (fun j hj => (o123 j (by simp at hj ⊢; try omega)).trans ((o103 j (by simp at hj ⊢; try omega)).trans ((o83 j (by simp at hj ⊢; try omega)).trans ((o61 j (by simp at hj ⊢; try omega)).trans (rfl))))), xx, ⟨by omega, by omega, by omega, by omega, by omega, by omega, by omega⟩⟩ | exact ⟨hB, (fun b hb => (f123 b (by simp at hb ⊢; try omega)).trans ((f103 b (by simp at hb ⊢; try omega)).trans ((f83 b (by simp at hb ⊢; try omega)).trans ((f61 b (by simp at hb ⊢; try omega)).trans (rfl))))), (fun j hj => (o123 j (by simp at hj ⊢; try omega)).trans ((o103 j (by simp at hj ⊢; try omega)).trans ((o83 j (by simp at hj ⊢; try omega)).trans ((o61 j (by simp at hj ⊢; try omega)).trans (rfl))))), pe_ME_g hM0 (by omega) (by omega) (by omega) ⟨by omega, by rw [show σ123 29 2 = σ 29 2 by omega]; exact hbg⟩ (by omega) ((f123 30 (by decide)).trans ((f103 30 (by decide)).trans ((f83 30 (by decide)).trans ((f61 30 (by decide)).trans (rfl))))) ((f123 31 (by decide)).trans ((f103 31 (by decide)).trans ((f83 31 (by decide)).trans ((f61 31 (by decide)).trans (rfl))))) ((f123 36 (by decide)).trans ((f103 36 (by decide)).trans ((f83 36 (by decide)).trans ((f61 36 (by decide)).trans (rfl))))) ((f123 32 (by decide)).trans ((f103 32 (by decide)).trans ((f83 32 (by decide)).trans ((f61 32 (by decide)).trans (rfl))))) ((f123 33 (by decide)).trans ((f103 33 (by decide)).trans ((f83 33 (by decide)).trans ((f61 33 (by decide)).trans (rfl))))) ((f123 34 (by decide)).trans ((f103 34 (by decide)).trans ((f83 34 (by decide)).trans ((f61 34 (by decide)).trans (rfl))))) ((f123 35 (by decide)).trans ((f103 35 (by decide)).trans ((f83 35 (by decide)).trans ((f61 35 (by decide)).trans (rfl))))), ⟨by omega, by omega, by omega, by omega, by omega, by omega, by omega⟩⟩
      · skip
        refine pe_aload_n d_M_plain_26 rfl ?_
        refine pe_iload_n d_M_plain_27 rfl ?_
        refine pe_v1v d_M_plain_28 c_M_144 i_M_character s_M_character rfl rfl (t_M_character hB hM0 (by omega)) (fun σ28 hz28 => ?_)
        obtain ⟨hB, f28, o28, x28⟩ := hz28
        try have u28_0 : σ28 29 1 = σ 29 1 := by first | exact o28 1 (by decide) | exact congrFun (f28 29 (by decide)) 1
        try have u28_1 : σ28 29 2 = σ 29 2 := by first | exact o28 2 (by decide) | exact congrFun (f28 29 (by decide)) 2
        try have u28_2 : σ28 29 3 = σ 29 3 := by first | exact o28 3 (by decide) | exact congrFun (f28 29 (by decide)) 3
        try have u28_3 : σ28 29 5 = σ 29 5 := by first | exact o28 5 (by decide) | exact congrFun (f28 29 (by decide)) 5
        try have u28_4 : σ28 29 7 = σ 29 7 := by first | exact o28 7 (by decide) | exact congrFun (f28 29 (by decide)) 7
        try have u28_5 : σ28 29 21 = σ 29 21 := by first | exact o28 21 (by decide) | exact congrFun (f28 29 (by decide)) 21
        try have u28_6 : σ28 29 26 = σ 29 26 := by first | exact o28 26 (by decide) | exact congrFun (f28 29 (by decide)) 26
        try have u28_7 : σ28 29 14 = σ 29 14 := by first | exact o28 14 (by decide) | exact congrFun (f28 29 (by decide)) 14
        try have u28_8 : σ28 29 15 = σ 29 15 := by first | exact o28 15 (by decide) | exact congrFun (f28 29 (by decide)) 15
        try have u28_9 : σ28 29 16 = σ 29 16 := by first | exact o28 16 (by decide) | exact congrFun (f28 29 (by decide)) 16
        try have u28_10 : σ28 29 17 = σ 29 17 := by first | exact o28 17 (by decide) | exact congrFun (f28 29 (by decide)) 17
        try have u28_11 : σ28 29 18 = σ 29 18 := by first | exact o28 18 (by decide) | exact congrFun (f28 29 (by decide)) 18
        have xx := x28
        refine pe_goto (t := 151) d_M_plain_31 ?_
        refine pe_rv d_M_plain_151 ?_
        first | exact ⟨hB, (fun b hb => (f28 b (by simp at hb ⊢; try omega)).trans (rfl)), (fun j hj => (o28 j (by simp at hj ⊢; try omega)).trans (rfl)), xx, ⟨by omega, by omega, by omega, by omega, by omega, by omega, by omega⟩⟩ | exact ⟨hB, (fun b hb => (f28 b (by simp at hb ⊢; try omega)).trans (rfl)), (fun j hj => (o28 j (by simp at hj ⊢; try omega)).trans (rfl)), pe_ME_g hM0 (by omega) (by omega) (by omega) ⟨by omega, by rw [show σ28 29 2 = σ 29 2 by omega]; exact hbg⟩ (by omega) ((f28 30 (by decide)).trans (rfl)) ((f28 31 (by decide)).trans (rfl)) ((f28 36 (by decide)).trans (rfl)) ((f28 32 (by decide)).trans (rfl)) ((f28 33 (by decide)).trans (rfl)) ((f28 34 (by decide)).trans (rfl)) ((f28 35 (by decide)).trans (rfl)), ⟨by omega, by omega, by omega, by omega, by omega, by omega, by omega⟩⟩
  · skip
    refine pe_aload_n d_M_plain_6 rfl ?_
    refine pe_iconst d_M_plain_7 ?_
    refine pe_putiT f_M_181 g_11_13 d_M_plain_8 rfl rfl 13 rfl hB (by first | exact hB _ _ | exact hB0 _ _ | exact hBt _ _ | exact ⟨by omega, by omega⟩) (fun σ8 hB e8 o8 f8 => ?_)
    try have u8_0 : σ8 29 1 = σ 29 1 := by first | exact o8 1 (by decide) | exact congrFun (f8 29 (by decide)) 1
    try have u8_1 : σ8 29 2 = σ 29 2 := by first | exact o8 2 (by decide) | exact congrFun (f8 29 (by decide)) 2
    try have u8_2 : σ8 29 3 = σ 29 3 := by first | exact o8 3 (by decide) | exact congrFun (f8 29 (by decide)) 3
    try have u8_3 : σ8 29 5 = σ 29 5 := by first | exact o8 5 (by decide) | exact congrFun (f8 29 (by decide)) 5
    try have u8_4 : σ8 29 7 = σ 29 7 := by first | exact o8 7 (by decide) | exact congrFun (f8 29 (by decide)) 7
    try have u8_5 : σ8 29 21 = σ 29 21 := by first | exact o8 21 (by decide) | exact congrFun (f8 29 (by decide)) 21
    try have u8_6 : σ8 29 26 = σ 29 26 := by first | exact o8 26 (by decide) | exact congrFun (f8 29 (by decide)) 26
    try have u8_7 : σ8 29 14 = σ 29 14 := by first | exact o8 14 (by decide) | exact congrFun (f8 29 (by decide)) 14
    try have u8_8 : σ8 29 15 = σ 29 15 := by first | exact o8 15 (by decide) | exact congrFun (f8 29 (by decide)) 15
    try have u8_9 : σ8 29 16 = σ 29 16 := by first | exact o8 16 (by decide) | exact congrFun (f8 29 (by decide)) 16
    try have u8_10 : σ8 29 17 = σ 29 17 := by first | exact o8 17 (by decide) | exact congrFun (f8 29 (by decide)) 17
    try have u8_11 : σ8 29 18 = σ 29 18 := by first | exact o8 18 (by decide) | exact congrFun (f8 29 (by decide)) 18
    refine pe_goto (t := 151) d_M_plain_11 ?_
    refine pe_rv d_M_plain_151 ?_
    first | exact ⟨hB, (fun b hb => (f8 b (by simp at hb ⊢; try omega)).trans (rfl)), (fun j hj => (o8 j (by simp at hj ⊢; try omega)).trans (rfl)), xx, ⟨by omega, by omega, by omega, by omega, by omega, by omega, by omega⟩⟩ | exact ⟨hB, (fun b hb => (f8 b (by simp at hb ⊢; try omega)).trans (rfl)), (fun j hj => (o8 j (by simp at hj ⊢; try omega)).trans (rfl)), pe_ME_g hM0 (by omega) (by omega) (by omega) ⟨by omega, by rw [show σ8 29 2 = σ 29 2 by omega]; exact hbg⟩ (by omega) ((f8 30 (by decide)).trans (rfl)) ((f8 31 (by decide)).trans (rfl)) ((f8 36 (by decide)).trans (rfl)) ((f8 32 (by decide)).trans (rfl)) ((f8 33 (by decide)).trans (rfl)) ((f8 34 (by decide)).trans (rfl)) ((f8 35 (by decide)).trans (rfl)), ⟨by omega, by omega, by omega, by omega, by omega, by omega, by omega⟩⟩
theorem t_M_within {σ : pe_H} {k a : Int} (hB : pe_B σ) (hM : pe_MEs σ) (hK : pe_KI (σ 29)) (hk : 0 ≤ k ∧ k ≤ 255) (ha : pe_R a) (hp : 0 < σ 29 15) : pe_M m_M_within [pe_r 29, pe_i k, pe_i a] σ (pe_qv (fun σ' => pe_B σ' ∧ (∀ b, b ∉ [29, 30, 31, 32, 33, 34, 35, 36, 37, 38, 39] → σ' b = σ b) ∧ (∀ j, j ∉ ([1, 2, 3, 5, 6, 7, 13, 14, 15, 16, 17, 18, 19, 20, 26, 41] : List Int) → σ' 29 j = σ 29 j) ∧ (pe_MEs σ' ∧ pe_KI (σ' 29)))) := by
  refine pe_in0 (lv := [some (pe_r 29), some (pe_i k), some (pe_i a)]) ?_
  have hB0 := hB
  have hM0 := hM
  obtain ⟨hl, A30, A31, A36, ⟨hcu, hbg⟩, hma, hcl, hcg, hch, N30, N31, N36⟩ := hM
  have hK0 := hK
  obtain ⟨k1, k2, k3, k4, k5, k6, k7⟩ := hK
  refine pe_iload_n d_M_within_0 rfl ?_
  refine pe_aload_n d_M_within_1 rfl ?_
  refine pe_geti f_M_190 d_M_within_2 rfl rfl 17 rfl ?_
  refine pe_icmp_lt (t := 16) d_M_within_5 (by first | exact hB _ _ | exact hB0 _ _ | exact hBt _ _ | exact ⟨by omega, by omega⟩) (by first | exact hB _ _ | exact hB0 _ _ | exact hBt _ _ | exact ⟨by omega, by omega⟩) (fun h5 => ?_) (fun h5 => ?_)
  · skip
    refine pe_aload_n d_M_within_16 rfl ?_
    refine pe_iconst d_M_within_17 ?_
    refine pe_putiT f_M_184 g_11_15 d_M_within_18 rfl rfl 15 rfl hB (by first | exact hB _ _ | exact hB0 _ _ | exact hBt _ _ | exact ⟨by omega, by omega⟩) (fun σ18 hB e18 o18 f18 => ?_)
    try have u18_0 : σ18 29 1 = σ 29 1 := by first | exact o18 1 (by decide) | exact congrFun (f18 29 (by decide)) 1
    try have u18_1 : σ18 29 2 = σ 29 2 := by first | exact o18 2 (by decide) | exact congrFun (f18 29 (by decide)) 2
    try have u18_2 : σ18 29 3 = σ 29 3 := by first | exact o18 3 (by decide) | exact congrFun (f18 29 (by decide)) 3
    try have u18_3 : σ18 29 5 = σ 29 5 := by first | exact o18 5 (by decide) | exact congrFun (f18 29 (by decide)) 5
    try have u18_4 : σ18 29 7 = σ 29 7 := by first | exact o18 7 (by decide) | exact congrFun (f18 29 (by decide)) 7
    try have u18_5 : σ18 29 21 = σ 29 21 := by first | exact o18 21 (by decide) | exact congrFun (f18 29 (by decide)) 21
    try have u18_6 : σ18 29 26 = σ 29 26 := by first | exact o18 26 (by decide) | exact congrFun (f18 29 (by decide)) 26
    try have u18_7 : σ18 29 14 = σ 29 14 := by first | exact o18 14 (by decide) | exact congrFun (f18 29 (by decide)) 14
    try have u18_8 : σ18 29 15 = σ 29 15 := by first | exact o18 15 (by decide) | exact congrFun (f18 29 (by decide)) 15
    try have u18_9 : σ18 29 16 = σ 29 16 := by first | exact o18 16 (by decide) | exact congrFun (f18 29 (by decide)) 16
    try have u18_10 : σ18 29 17 = σ 29 17 := by first | exact o18 17 (by decide) | exact congrFun (f18 29 (by decide)) 17
    try have u18_11 : σ18 29 18 = σ 29 18 := by first | exact o18 18 (by decide) | exact congrFun (f18 29 (by decide)) 18
    refine pe_aload_n d_M_within_21 rfl ?_
    refine pe_ldc q_M_196 d_M_within_22 (z := 65533) rfl ?_
    refine pe_v1v d_M_within_24 c_M_144 i_M_character s_M_character rfl rfl (t_M_character hB (pe_ME_g hM0 (by omega) (by omega) (by omega) ⟨by omega, by rw [show σ18 29 2 = σ 29 2 by omega]; exact hbg⟩ (by omega) ((f18 30 (by decide)).trans (rfl)) ((f18 31 (by decide)).trans (rfl)) ((f18 36 (by decide)).trans (rfl)) ((f18 32 (by decide)).trans (rfl)) ((f18 33 (by decide)).trans (rfl)) ((f18 34 (by decide)).trans (rfl)) ((f18 35 (by decide)).trans (rfl))) (by omega)) (fun σ24 hz24 => ?_)
    obtain ⟨hB, f24, o24, x24⟩ := hz24
    try have u24_0 : σ24 29 1 = σ18 29 1 := by first | exact o24 1 (by decide) | exact congrFun (f24 29 (by decide)) 1
    try have u24_1 : σ24 29 2 = σ18 29 2 := by first | exact o24 2 (by decide) | exact congrFun (f24 29 (by decide)) 2
    try have u24_2 : σ24 29 3 = σ18 29 3 := by first | exact o24 3 (by decide) | exact congrFun (f24 29 (by decide)) 3
    try have u24_3 : σ24 29 5 = σ18 29 5 := by first | exact o24 5 (by decide) | exact congrFun (f24 29 (by decide)) 5
    try have u24_4 : σ24 29 7 = σ18 29 7 := by first | exact o24 7 (by decide) | exact congrFun (f24 29 (by decide)) 7
    try have u24_5 : σ24 29 21 = σ18 29 21 := by first | exact o24 21 (by decide) | exact congrFun (f24 29 (by decide)) 21
    try have u24_6 : σ24 29 26 = σ18 29 26 := by first | exact o24 26 (by decide) | exact congrFun (f24 29 (by decide)) 26
    try have u24_7 : σ24 29 14 = σ18 29 14 := by first | exact o24 14 (by decide) | exact congrFun (f24 29 (by decide)) 14
    try have u24_8 : σ24 29 15 = σ18 29 15 := by first | exact o24 15 (by decide) | exact congrFun (f24 29 (by decide)) 15
    try have u24_9 : σ24 29 16 = σ18 29 16 := by first | exact o24 16 (by decide) | exact congrFun (f24 29 (by decide)) 16
    try have u24_10 : σ24 29 17 = σ18 29 17 := by first | exact o24 17 (by decide) | exact congrFun (f24 29 (by decide)) 17
    try have u24_11 : σ24 29 18 = σ18 29 18 := by first | exact o24 18 (by decide) | exact congrFun (f24 29 (by decide)) 18
    refine pe_aload_n d_M_within_27 rfl ?_
    refine pe_iload_n d_M_within_28 rfl ?_
    refine pe_iload_n d_M_within_29 rfl ?_
    refine pe_v2v d_M_within_30 c_M_200 i_M_plain s_M_plain rfl rfl (t_M_plain hB x24 ⟨by omega, by omega, by omega, by omega, by omega, by omega, by omega⟩ (by omega) (by first | exact hB _ _ | exact hB0 _ _ | exact hBt _ _ | exact ⟨by omega, by omega⟩)) (fun σ30 hz30 => ?_)
    obtain ⟨hB, f30, o30, x30⟩ := hz30
    try have u30_0 : σ30 29 1 = σ24 29 1 := by first | exact o30 1 (by decide) | exact congrFun (f30 29 (by decide)) 1
    try have u30_1 : σ30 29 2 = σ24 29 2 := by first | exact o30 2 (by decide) | exact congrFun (f30 29 (by decide)) 2
    try have u30_2 : σ30 29 3 = σ24 29 3 := by first | exact o30 3 (by decide) | exact congrFun (f30 29 (by decide)) 3
    try have u30_3 : σ30 29 5 = σ24 29 5 := by first | exact o30 5 (by decide) | exact congrFun (f30 29 (by decide)) 5
    try have u30_4 : σ30 29 7 = σ24 29 7 := by first | exact o30 7 (by decide) | exact congrFun (f30 29 (by decide)) 7
    try have u30_5 : σ30 29 21 = σ24 29 21 := by first | exact o30 21 (by decide) | exact congrFun (f30 29 (by decide)) 21
    try have u30_6 : σ30 29 26 = σ24 29 26 := by first | exact o30 26 (by decide) | exact congrFun (f30 29 (by decide)) 26
    try have u30_7 : σ30 29 14 = σ24 29 14 := by first | exact o30 14 (by decide) | exact congrFun (f30 29 (by decide)) 14
    try have u30_8 : σ30 29 15 = σ24 29 15 := by first | exact o30 15 (by decide) | exact congrFun (f30 29 (by decide)) 15
    try have u30_9 : σ30 29 16 = σ24 29 16 := by first | exact o30 16 (by decide) | exact congrFun (f30 29 (by decide)) 16
    try have u30_10 : σ30 29 17 = σ24 29 17 := by first | exact o30 17 (by decide) | exact congrFun (f30 29 (by decide)) 17
    try have u30_11 : σ30 29 18 = σ24 29 18 := by first | exact o30 18 (by decide) | exact congrFun (f30 29 (by decide)) 18
    have xx := x30.1
    have xk := x30.2
    refine pe_rv d_M_within_33 ?_
    first | exact ⟨hB, (fun b hb => (f30 b (by simp at hb ⊢; try omega)).trans ((f24 b (by simp at hb ⊢; try omega)).trans ((f18 b (by simp at hb ⊢; try omega)).trans (rfl)))), (fun j hj => (o30 j (by simp at hj ⊢; try omega)).trans ((o24 j (by simp at hj ⊢; try omega)).trans ((o18 j (by simp at hj ⊢; try omega)).trans (rfl)))), xx, xk⟩ | exact ⟨hB, (fun b hb => (f30 b (by simp at hb ⊢; try omega)).trans ((f24 b (by simp at hb ⊢; try omega)).trans ((f18 b (by simp at hb ⊢; try omega)).trans (rfl)))), (fun j hj => (o30 j (by simp at hj ⊢; try omega)).trans ((o24 j (by simp at hj ⊢; try omega)).trans ((o18 j (by simp at hj ⊢; try omega)).trans (rfl)))), xx, ⟨by omega, by omega, by omega, by omega, by omega, by omega, by omega⟩⟩ | exact ⟨hB, (fun b hb => (f30 b (by simp at hb ⊢; try omega)).trans ((f24 b (by simp at hb ⊢; try omega)).trans ((f18 b (by simp at hb ⊢; try omega)).trans (rfl)))), (fun j hj => (o30 j (by simp at hj ⊢; try omega)).trans ((o24 j (by simp at hj ⊢; try omega)).trans ((o18 j (by simp at hj ⊢; try omega)).trans (rfl)))), pe_ME_g hM0 (by omega) (by omega) (by omega) ⟨by omega, by rw [show σ30 29 2 = σ 29 2 by omega]; exact hbg⟩ (by omega) ((f30 30 (by decide)).trans ((f24 30 (by decide)).trans ((f18 30 (by decide)).trans (rfl)))) ((f30 31 (by decide)).trans ((f24 31 (by decide)).trans ((f18 31 (by decide)).trans (rfl)))) ((f30 36 (by decide)).trans ((f24 36 (by decide)).trans ((f18 36 (by decide)).trans (rfl)))) ((f30 32 (by decide)).trans ((f24 32 (by decide)).trans ((f18 32 (by decide)).trans (rfl)))) ((f30 33 (by decide)).trans ((f24 33 (by decide)).trans ((f18 33 (by decide)).trans (rfl)))) ((f30 34 (by decide)).trans ((f24 34 (by decide)).trans ((f18 34 (by decide)).trans (rfl)))) ((f30 35 (by decide)).trans ((f24 35 (by decide)).trans ((f18 35 (by decide)).trans (rfl)))), ⟨by omega, by omega, by omega, by omega, by omega, by omega, by omega⟩⟩
  · skip
    refine pe_iload_n d_M_within_8 rfl ?_
    refine pe_aload_n d_M_within_9 rfl ?_
    refine pe_geti f_M_193 d_M_within_10 rfl rfl 18 rfl ?_
    refine pe_icmp_le (t := 34) d_M_within_13 (by first | exact hB _ _ | exact hB0 _ _ | exact hBt _ _ | exact ⟨by omega, by omega⟩) (by first | exact hB _ _ | exact hB0 _ _ | exact hBt _ _ | exact ⟨by omega, by omega⟩) (fun h13 => ?_) (fun h13 => ?_)
    · skip
      refine pe_aload_n d_M_within_34 rfl ?_
      refine pe_aload_n d_M_within_35 rfl ?_
      refine pe_geti f_M_187 d_M_within_36 rfl rfl 16 rfl ?_
      refine pe_bipush d_M_within_39 ?_
      refine pe_ishl d_M_within_41 (pe_shl6 (by omega) (by omega)) ?_
      refine pe_iload_n d_M_within_42 rfl ?_
      refine pe_bipush d_M_within_43 ?_
      refine pe_iand d_M_within_45 (pe_and 6 64 (by omega) (by omega)) ?_
      refine pe_ior d_M_within_46 (pe_or6 (by omega) (by omega) (by omega) (by omega)) ?_
      refine pe_putiT f_M_187 g_11_16 d_M_within_47 rfl rfl 16 rfl hB (by first | exact hB _ _ | exact hB0 _ _ | exact hBt _ _ | exact ⟨by omega, by omega⟩) (fun σ47 hB e47 o47 f47 => ?_)
      try have u47_0 : σ47 29 1 = σ 29 1 := by first | exact o47 1 (by decide) | exact congrFun (f47 29 (by decide)) 1
      try have u47_1 : σ47 29 2 = σ 29 2 := by first | exact o47 2 (by decide) | exact congrFun (f47 29 (by decide)) 2
      try have u47_2 : σ47 29 3 = σ 29 3 := by first | exact o47 3 (by decide) | exact congrFun (f47 29 (by decide)) 3
      try have u47_3 : σ47 29 5 = σ 29 5 := by first | exact o47 5 (by decide) | exact congrFun (f47 29 (by decide)) 5
      try have u47_4 : σ47 29 7 = σ 29 7 := by first | exact o47 7 (by decide) | exact congrFun (f47 29 (by decide)) 7
      try have u47_5 : σ47 29 21 = σ 29 21 := by first | exact o47 21 (by decide) | exact congrFun (f47 29 (by decide)) 21
      try have u47_6 : σ47 29 26 = σ 29 26 := by first | exact o47 26 (by decide) | exact congrFun (f47 29 (by decide)) 26
      try have u47_7 : σ47 29 14 = σ 29 14 := by first | exact o47 14 (by decide) | exact congrFun (f47 29 (by decide)) 14
      try have u47_8 : σ47 29 15 = σ 29 15 := by first | exact o47 15 (by decide) | exact congrFun (f47 29 (by decide)) 15
      try have u47_9 : σ47 29 16 = σ 29 16 := by first | exact o47 16 (by decide) | exact congrFun (f47 29 (by decide)) 16
      try have u47_10 : σ47 29 17 = σ 29 17 := by first | exact o47 17 (by decide) | exact congrFun (f47 29 (by decide)) 17
      try have u47_11 : σ47 29 18 = σ 29 18 := by first | exact o47 18 (by decide) | exact congrFun (f47 29 (by decide)) 18
      refine pe_aload_n d_M_within_50 rfl ?_
      refine pe_sipush d_M_within_51 ?_
      refine pe_putiT f_M_190 g_11_17 d_M_within_54 rfl rfl 17 rfl hB (by first | exact hB _ _ | exact hB0 _ _ | exact hBt _ _ | exact ⟨by omega, by omega⟩) (fun σ54 hB e54 o54 f54 => ?_)
      try have u54_0 : σ54 29 1 = σ47 29 1 := by first | exact o54 1 (by decide) | exact congrFun (f54 29 (by decide)) 1
      try have u54_1 : σ54 29 2 = σ47 29 2 := by first | exact o54 2 (by decide) | exact congrFun (f54 29 (by decide)) 2
      try have u54_2 : σ54 29 3 = σ47 29 3 := by first | exact o54 3 (by decide) | exact congrFun (f54 29 (by decide)) 3
      try have u54_3 : σ54 29 5 = σ47 29 5 := by first | exact o54 5 (by decide) | exact congrFun (f54 29 (by decide)) 5
      try have u54_4 : σ54 29 7 = σ47 29 7 := by first | exact o54 7 (by decide) | exact congrFun (f54 29 (by decide)) 7
      try have u54_5 : σ54 29 21 = σ47 29 21 := by first | exact o54 21 (by decide) | exact congrFun (f54 29 (by decide)) 21
      try have u54_6 : σ54 29 26 = σ47 29 26 := by first | exact o54 26 (by decide) | exact congrFun (f54 29 (by decide)) 26
      try have u54_7 : σ54 29 14 = σ47 29 14 := by first | exact o54 14 (by decide) | exact congrFun (f54 29 (by decide)) 14
      try have u54_8 : σ54 29 15 = σ47 29 15 := by first | exact o54 15 (by decide) | exact congrFun (f54 29 (by decide)) 15
      try have u54_9 : σ54 29 16 = σ47 29 16 := by first | exact o54 16 (by decide) | exact congrFun (f54 29 (by decide)) 16
      try have u54_10 : σ54 29 17 = σ47 29 17 := by first | exact o54 17 (by decide) | exact congrFun (f54 29 (by decide)) 17
      try have u54_11 : σ54 29 18 = σ47 29 18 := by first | exact o54 18 (by decide) | exact congrFun (f54 29 (by decide)) 18
      refine pe_aload_n d_M_within_57 rfl ?_
      refine pe_sipush d_M_within_58 ?_
      refine pe_putiT f_M_193 g_11_18 d_M_within_61 rfl rfl 18 rfl hB (by first | exact hB _ _ | exact hB0 _ _ | exact hBt _ _ | exact ⟨by omega, by omega⟩) (fun σ61 hB e61 o61 f61 => ?_)
      try have u61_0 : σ61 29 1 = σ54 29 1 := by first | exact o61 1 (by decide) | exact congrFun (f61 29 (by decide)) 1
      try have u61_1 : σ61 29 2 = σ54 29 2 := by first | exact o61 2 (by decide) | exact congrFun (f61 29 (by decide)) 2
      try have u61_2 : σ61 29 3 = σ54 29 3 := by first | exact o61 3 (by decide) | exact congrFun (f61 29 (by decide)) 3
      try have u61_3 : σ61 29 5 = σ54 29 5 := by first | exact o61 5 (by decide) | exact congrFun (f61 29 (by decide)) 5
      try have u61_4 : σ61 29 7 = σ54 29 7 := by first | exact o61 7 (by decide) | exact congrFun (f61 29 (by decide)) 7
      try have u61_5 : σ61 29 21 = σ54 29 21 := by first | exact o61 21 (by decide) | exact congrFun (f61 29 (by decide)) 21
      try have u61_6 : σ61 29 26 = σ54 29 26 := by first | exact o61 26 (by decide) | exact congrFun (f61 29 (by decide)) 26
      try have u61_7 : σ61 29 14 = σ54 29 14 := by first | exact o61 14 (by decide) | exact congrFun (f61 29 (by decide)) 14
      try have u61_8 : σ61 29 15 = σ54 29 15 := by first | exact o61 15 (by decide) | exact congrFun (f61 29 (by decide)) 15
      try have u61_9 : σ61 29 16 = σ54 29 16 := by first | exact o61 16 (by decide) | exact congrFun (f61 29 (by decide)) 16
      try have u61_10 : σ61 29 17 = σ54 29 17 := by first | exact o61 17 (by decide) | exact congrFun (f61 29 (by decide)) 17
      try have u61_11 : σ61 29 18 = σ54 29 18 := by first | exact o61 18 (by decide) | exact congrFun (f61 29 (by decide)) 18
      refine pe_aload_n d_M_within_64 rfl ?_
      refine pe_dup d_M_within_65 ?_
      refine pe_geti f_M_184 d_M_within_66 rfl rfl 15 rfl ?_
      refine pe_iconst d_M_within_69 ?_
      refine pe_isub d_M_within_70 ?_
      refine pe_putiT f_M_184 g_11_15 d_M_within_71 rfl rfl 15 rfl hB (by first | exact hB _ _ | exact hB0 _ _ | exact hBt _ _ | exact ⟨by omega, by omega⟩) (fun σ71 hB e71 o71 f71 => ?_)
      try have u71_0 : σ71 29 1 = σ61 29 1 := by first | exact o71 1 (by decide) | exact congrFun (f71 29 (by decide)) 1
      try have u71_1 : σ71 29 2 = σ61 29 2 := by first | exact o71 2 (by decide) | exact congrFun (f71 29 (by decide)) 2
      try have u71_2 : σ71 29 3 = σ61 29 3 := by first | exact o71 3 (by decide) | exact congrFun (f71 29 (by decide)) 3
      try have u71_3 : σ71 29 5 = σ61 29 5 := by first | exact o71 5 (by decide) | exact congrFun (f71 29 (by decide)) 5
      try have u71_4 : σ71 29 7 = σ61 29 7 := by first | exact o71 7 (by decide) | exact congrFun (f71 29 (by decide)) 7
      try have u71_5 : σ71 29 21 = σ61 29 21 := by first | exact o71 21 (by decide) | exact congrFun (f71 29 (by decide)) 21
      try have u71_6 : σ71 29 26 = σ61 29 26 := by first | exact o71 26 (by decide) | exact congrFun (f71 29 (by decide)) 26
      try have u71_7 : σ71 29 14 = σ61 29 14 := by first | exact o71 14 (by decide) | exact congrFun (f71 29 (by decide)) 14
      try have u71_8 : σ71 29 15 = σ61 29 15 := by first | exact o71 15 (by decide) | exact congrFun (f71 29 (by decide)) 15
      try have u71_9 : σ71 29 16 = σ61 29 16 := by first | exact o71 16 (by decide) | exact congrFun (f71 29 (by decide)) 16
      try have u71_10 : σ71 29 17 = σ61 29 17 := by first | exact o71 17 (by decide) | exact congrFun (f71 29 (by decide)) 17
      try have u71_11 : σ71 29 18 = σ61 29 18 := by first | exact o71 18 (by decide) | exact congrFun (f71 29 (by decide)) 18
      refine pe_aload_n d_M_within_74 rfl ?_
      refine pe_geti f_M_184 d_M_within_75 rfl rfl 15 rfl ?_
      refine pe_if_ne (t := 109) d_M_within_78 (by first | exact hB _ _ | exact hB0 _ _ | exact hBt _ _ | exact ⟨by omega, by omega⟩) (fun h78 => ?_) (fun h78 => ?_)
      · skip
        refine pe_rv d_M_within_109 ?_
        first | exact ⟨hB, (fun b hb => (f71 b (by simp at hb ⊢; try omega)).trans ((f61 b (by simp at hb ⊢; try omega)).trans ((f54 b (by simp at hb ⊢; try omega)).trans ((f47 b (by simp at hb ⊢; try omega)).trans (rfl))))), (fun j hj => (o71 j (by simp at hj ⊢; try omega)).trans ((o61 j (by simp at hj ⊢; try omega)).trans ((o54 j (by simp at hj ⊢; try omega)).trans ((o47 j (by simp at hj ⊢; try omega)).trans (rfl))))), xx, xk⟩ | exact ⟨hB, (fun b hb => (f71 b (by simp at hb ⊢; try omega)).trans ((f61 b (by simp at hb ⊢; try omega)).trans ((f54 b (by simp at hb ⊢; try omega)).trans ((f47 b (by simp at hb ⊢; try omega)).trans (rfl))))), (fun j hj => (o71 j (by simp at hj ⊢; try omega)).trans ((o61 j (by simp at hj ⊢; try omega)).trans ((o54 j (by simp at hj ⊢; try omega)).trans ((o47 j (by simp at hj ⊢; try omega)).trans (rfl))))), xx, ⟨by omega, by omega, by omega, by omega, by omega, by omega, by omega⟩⟩ | exact ⟨hB, (fun b hb => (f71 b (by simp at hb ⊢; try omega)).trans ((f61 b (by simp at hb ⊢; try omega)).trans ((f54 b (by simp at hb ⊢; try omega)).trans ((f47 b (by simp at hb ⊢; try omega)).trans (rfl))))), (fun j hj => (o71 j (by simp at hj ⊢; try omega)).trans ((o61 j (by simp at hj ⊢; try omega)).trans ((o54 j (by simp at hj ⊢; try omega)).trans ((o47 j (by simp at hj ⊢; try omega)).trans (rfl))))), pe_ME_g hM0 (by omega) (by omega) (by omega) ⟨by omega, by rw [show σ71 29 2 = σ 29 2 by omega]; exact hbg⟩ (by omega) ((f71 30 (by decide)).trans ((f61 30 (by decide)).trans ((f54 30 (by decide)).trans ((f47 30 (by decide)).trans (rfl))))) ((f71 31 (by decide)).trans ((f61 31 (by decide)).trans ((f54 31 (by decide)).trans ((f47 31 (by decide)).trans (rfl))))) ((f71 36 (by decide)).trans ((f61 36 (by decide)).trans ((f54 36 (by decide)).trans ((f47 36 (by decide)).trans (rfl))))) ((f71 32 (by decide)).trans ((f61 32 (by decide)).trans ((f54 32 (by decide)).trans ((f47 32 (by decide)).trans (rfl))))) ((f71 33 (by decide)).trans ((f61 33 (by decide)).trans ((f54 33 (by decide)).trans ((f47 33 (by decide)).trans (rfl))))) ((f71 34 (by decide)).trans ((f61 34 (by decide)).trans ((f54 34 (by decide)).trans ((f47 34 (by decide)).trans (rfl))))) ((f71 35 (by decide)).trans ((f61 35 (by decide)).trans ((f54 35 (by decide)).trans ((f47 35 (by decide)).trans (rfl))))), ⟨by omega, by omega, by omega, by omega, by omega, by omega, by omega⟩⟩
      · skip
        refine pe_aload_n d_M_within_81 rfl ?_
        refine pe_geti f_M_187 d_M_within_82 rfl rfl 16 rfl ?_
        refine pe_sipush d_M_within_85 ?_
        refine pe_icmp_lt (t := 101) d_M_within_88 (by first | exact hB _ _ | exact hB0 _ _ | exact hBt _ _ | exact ⟨by omega, by omega⟩) (by first | exact hB _ _ | exact hB0 _ _ | exact hBt _ _ | exact ⟨by omega, by omega⟩) (fun h88 => ?_) (fun h88 => ?_)
        · skip
          refine pe_aload_n d_M_within_101 rfl ?_
          refine pe_aload_n d_M_within_102 rfl ?_
          refine pe_geti f_M_187 d_M_within_103 rfl rfl 16 rfl ?_
          refine pe_v1v d_M_within_106 c_M_144 i_M_character s_M_character rfl rfl (t_M_character hB (pe_ME_g hM0 (by omega) (by omega) (by omega) ⟨by omega, by rw [show σ71 29 2 = σ 29 2 by omega]; exact hbg⟩ (by omega) ((f71 30 (by decide)).trans ((f61 30 (by decide)).trans ((f54 30 (by decide)).trans ((f47 30 (by decide)).trans (rfl))))) ((f71 31 (by decide)).trans ((f61 31 (by decide)).trans ((f54 31 (by decide)).trans ((f47 31 (by decide)).trans (rfl))))) ((f71 36 (by decide)).trans ((f61 36 (by decide)).trans ((f54 36 (by decide)).trans ((f47 36 (by decide)).trans (rfl))))) ((f71 32 (by decide)).trans ((f61 32 (by decide)).trans ((f54 32 (by decide)).trans ((f47 32 (by decide)).trans (rfl))))) ((f71 33 (by decide)).trans ((f61 33 (by decide)).trans ((f54 33 (by decide)).trans ((f47 33 (by decide)).trans (rfl))))) ((f71 34 (by decide)).trans ((f61 34 (by decide)).trans ((f54 34 (by decide)).trans ((f47 34 (by decide)).trans (rfl))))) ((f71 35 (by decide)).trans ((f61 35 (by decide)).trans ((f54 35 (by decide)).trans ((f47 35 (by decide)).trans (rfl)))))) (by omega)) (fun σ106 hz106 => ?_)
          obtain ⟨hB, f106, o106, x106⟩ := hz106
          try have u106_0 : σ106 29 1 = σ71 29 1 := by first | exact o106 1 (by decide) | exact congrFun (f106 29 (by decide)) 1
          try have u106_1 : σ106 29 2 = σ71 29 2 := by first | exact o106 2 (by decide) | exact congrFun (f106 29 (by decide)) 2
          try have u106_2 : σ106 29 3 = σ71 29 3 := by first | exact o106 3 (by decide) | exact congrFun (f106 29 (by decide)) 3
          try have u106_3 : σ106 29 5 = σ71 29 5 := by first | exact o106 5 (by decide) | exact congrFun (f106 29 (by decide)) 5
          try have u106_4 : σ106 29 7 = σ71 29 7 := by first | exact o106 7 (by decide) | exact congrFun (f106 29 (by decide)) 7
          try have u106_5 : σ106 29 21 = σ71 29 21 := by first | exact o106 21 (by decide) | exact congrFun (f106 29 (by decide)) 21
          try have u106_6 : σ106 29 26 = σ71 29 26 := by first | exact o106 26 (by decide) | exact congrFun (f106 29 (by decide)) 26
          try have u106_7 : σ106 29 14 = σ71 29 14 := by first | exact o106 14 (by decide) | exact congrFun (f106 29 (by decide)) 14
          try have u106_8 : σ106 29 15 = σ71 29 15 := by first | exact o106 15 (by decide) | exact congrFun (f106 29 (by decide)) 15
          try have u106_9 : σ106 29 16 = σ71 29 16 := by first | exact o106 16 (by decide) | exact congrFun (f106 29 (by decide)) 16
          try have u106_10 : σ106 29 17 = σ71 29 17 := by first | exact o106 17 (by decide) | exact congrFun (f106 29 (by decide)) 17
          try have u106_11 : σ106 29 18 = σ71 29 18 := by first | exact o106 18 (by decide) | exact congrFun (f106 29 (by decide)) 18
          have xx := x106
          refine pe_rv d_M_within_109 ?_
          first | exact ⟨hB, (fun b hb => (f106 b (by simp at hb ⊢; try omega)).trans ((f71 b (by simp at hb ⊢; try omega)).trans ((f61 b (by simp at hb ⊢; try omega)).trans ((f54 b (by simp at hb ⊢; try omega)).trans ((f47 b (by simp at hb ⊢; try omega)).trans (rfl)))))), (fun j hj => (o106 j (by simp at hj ⊢; try omega)).trans ((o71 j (by simp at hj ⊢; try omega)).trans ((o61 j (by simp at hj ⊢; try omega)).trans ((o54 j (by simp at hj ⊢; try omega)).trans ((o47 j (by simp at hj ⊢; try omega)).trans (rfl)))))), xx, xk⟩ | exact ⟨hB, (fun b hb => (f106 b (by simp at hb ⊢; try omega)).trans ((f71 b (by simp at hb ⊢; try omega)).trans ((f61 b (by simp at hb ⊢; try omega)).trans ((f54 b (by simp at hb ⊢; try omega)).trans ((f47 b (by simp at hb ⊢; try omega)).trans (rfl)))))), (fun j hj => (o106 j (by simp at hj ⊢; try omega)).trans ((o71 j (by simp at hj ⊢; try omega)).trans ((o61 j (by simp at hj ⊢; try omega)).trans ((o54 j (by simp at hj ⊢; try omega)).trans ((o47 j (by simp at hj ⊢; try omega)).trans (rfl)))))), xx, ⟨by omega, by omega, by omega, by omega, by omega, by omega, by omega⟩⟩ | exact ⟨hB, (fun b hb => (f106 b (by simp at hb ⊢; try omega)).trans ((f71 b (by simp at hb ⊢; try omega)).trans ((f61 b (by simp at hb ⊢; try omega)).trans ((f54 b (by simp at hb ⊢; try omega)).trans ((f47 b (by simp at hb ⊢; try omega)).trans (rfl)))))), (fun j hj => (o106 j (by simp at hj ⊢; try omega)).trans ((o71 j (by simp at hj ⊢; try omega)).trans ((o61 j (by simp at hj ⊢; try omega)).trans ((o54 j (by simp at hj ⊢; try omega)).trans ((o47 j (by simp at hj ⊢; try omega)).trans (rfl)))))), pe_ME_g hM0 (by omega) (by omega) (by omega) ⟨by omega, by rw [show σ106 29 2 = σ 29 2 by omega]; exact hbg⟩ (by omega) ((f106 30 (by decide)).trans ((f71 30 (by decide)).trans ((f61 30 (by decide)).trans ((f54 30 (by decide)).trans ((f47 30 (by decide)).trans (rfl)))))) ((f106 31 (by decide)).trans ((f71 31 (by decide)).trans ((f61 31 (by decide)).trans ((f54 31 (by decide)).trans ((f47 31 (by decide)).trans (rfl)))))) ((f106 36 (by decide)).trans ((f71 36 (by decide)).trans ((f61 36 (by decide)).trans ((f54 36 (by decide)).trans ((f47 36 (by decide)).trans (rfl)))))) ((f106 32 (by decide)).trans ((f71 32 (by decide)).trans ((f61 32 (by decide)).trans ((f54 32 (by decide)).trans ((f47 32 (by decide)).trans (rfl)))))) ((f106 33 (by decide)).trans ((f71 33 (by decide)).trans ((f61 33 (by decide)).trans ((f54 33 (by decide)).trans ((f47 33 (by decide)).trans (rfl)))))) ((f106 34 (by decide)).trans ((f71 34 (by decide)).trans ((f61 34 (by decide)).trans ((f54 34 (by decide)).trans ((f47 34 (by decide)).trans (rfl)))))) ((f106 35 (by decide)).trans ((f71 35 (by decide)).trans ((f61 35 (by decide)).trans ((f54 35 (by decide)).trans ((f47 35 (by decide)).trans (rfl)))))), ⟨by omega, by omega, by omega, by omega, by omega, by omega, by omega⟩⟩
        · skip
          refine pe_aload_n d_M_within_91 rfl ?_
          refine pe_geti f_M_187 d_M_within_92 rfl rfl 16 rfl ?_
          refine pe_sipush d_M_within_95 ?_
          refine pe_icmp_le (t := 109) d_M_within_98 (by first | exact hB _ _ | exact hB0 _ _ | exact hBt _ _ | exact ⟨by omega, by omega⟩) (by first | exact hB _ _ | exact hB0 _ _ | exact hBt _ _ | exact ⟨by omega, by omega⟩) (fun h98 => ?_) (fun h98 => ?_)
          · skip
            refine pe_rv d_M_within_109 ?_
            first | exact ⟨hB, (fun b hb => (f71 b (by simp at hb ⊢; try omega)).trans ((f61 b (by simp at hb ⊢; try omega)).trans ((f54 b (by simp at hb ⊢; try omega)).trans ((f47 b (by simp at hb ⊢; try omega)).trans (rfl))))), (fun j hj => (o71 j (by simp at hj ⊢; try omega)).trans ((o61 j (by simp at hj ⊢; try omega)).trans ((o54 j (by simp at hj ⊢; try omega)).trans ((o47 j (by simp at hj ⊢; try omega)).trans (rfl))))), xx, xk⟩ | exact ⟨hB, (fun b hb => (f71 b (by simp at hb ⊢; try omega)).trans ((f61 b (by simp at hb ⊢; try omega)).trans ((f54 b (by simp at hb ⊢; try omega)).trans ((f47 b (by simp at hb ⊢; try omega)).trans (rfl))))), (fun j hj => (o71 j (by simp at hj ⊢; try omega)).trans ((o61 j (by simp at hj ⊢; try omega)).trans ((o54 j (by simp at hj ⊢; try omega)).trans ((o47 j (by simp at hj ⊢; try omega)).trans (rfl))))), xx, ⟨by omega, by omega, by omega, by omega, by omega, by omega, by omega⟩⟩ | exact ⟨hB, (fun b hb => (f71 b (by simp at hb ⊢; try omega)).trans ((f61 b (by simp at hb ⊢; try omega)).trans ((f54 b (by simp at hb ⊢; try omega)).trans ((f47 b (by simp at hb ⊢; try omega)).trans (rfl))))), (fun j hj => (o71 j (by simp at hj ⊢; try omega)).trans ((o61 j (by simp at hj ⊢; try omega)).trans ((o54 j (by simp at hj ⊢; try omega)).trans ((o47 j (by simp at hj ⊢; try omega)).trans (rfl))))), pe_ME_g hM0 (by omega) (by omega) (by omega) ⟨by omega, by rw [show σ71 29 2 = σ 29 2 by omega]; exact hbg⟩ (by omega) ((f71 30 (by decide)).trans ((f61 30 (by decide)).trans ((f54 30 (by decide)).trans ((f47 30 (by decide)).trans (rfl))))) ((f71 31 (by decide)).trans ((f61 31 (by decide)).trans ((f54 31 (by decide)).trans ((f47 31 (by decide)).trans (rfl))))) ((f71 36 (by decide)).trans ((f61 36 (by decide)).trans ((f54 36 (by decide)).trans ((f47 36 (by decide)).trans (rfl))))) ((f71 32 (by decide)).trans ((f61 32 (by decide)).trans ((f54 32 (by decide)).trans ((f47 32 (by decide)).trans (rfl))))) ((f71 33 (by decide)).trans ((f61 33 (by decide)).trans ((f54 33 (by decide)).trans ((f47 33 (by decide)).trans (rfl))))) ((f71 34 (by decide)).trans ((f61 34 (by decide)).trans ((f54 34 (by decide)).trans ((f47 34 (by decide)).trans (rfl))))) ((f71 35 (by decide)).trans ((f61 35 (by decide)).trans ((f54 35 (by decide)).trans ((f47 35 (by decide)).trans (rfl))))), ⟨by omega, by omega, by omega, by omega, by omega, by omega, by omega⟩⟩
          · skip
            refine pe_aload_n d_M_within_101 rfl ?_
            refine pe_aload_n d_M_within_102 rfl ?_
            refine pe_geti f_M_187 d_M_within_103 rfl rfl 16 rfl ?_
            refine pe_v1v d_M_within_106 c_M_144 i_M_character s_M_character rfl rfl (t_M_character hB (pe_ME_g hM0 (by omega) (by omega) (by omega) ⟨by omega, by rw [show σ71 29 2 = σ 29 2 by omega]; exact hbg⟩ (by omega) ((f71 30 (by decide)).trans ((f61 30 (by decide)).trans ((f54 30 (by decide)).trans ((f47 30 (by decide)).trans (rfl))))) ((f71 31 (by decide)).trans ((f61 31 (by decide)).trans ((f54 31 (by decide)).trans ((f47 31 (by decide)).trans (rfl))))) ((f71 36 (by decide)).trans ((f61 36 (by decide)).trans ((f54 36 (by decide)).trans ((f47 36 (by decide)).trans (rfl))))) ((f71 32 (by decide)).trans ((f61 32 (by decide)).trans ((f54 32 (by decide)).trans ((f47 32 (by decide)).trans (rfl))))) ((f71 33 (by decide)).trans ((f61 33 (by decide)).trans ((f54 33 (by decide)).trans ((f47 33 (by decide)).trans (rfl))))) ((f71 34 (by decide)).trans ((f61 34 (by decide)).trans ((f54 34 (by decide)).trans ((f47 34 (by decide)).trans (rfl))))) ((f71 35 (by decide)).trans ((f61 35 (by decide)).trans ((f54 35 (by decide)).trans ((f47 35 (by decide)).trans (rfl)))))) (by omega)) (fun σ106 hz106 => ?_)
            obtain ⟨hB, f106, o106, x106⟩ := hz106
            try have u106_0 : σ106 29 1 = σ71 29 1 := by first | exact o106 1 (by decide) | exact congrFun (f106 29 (by decide)) 1
            try have u106_1 : σ106 29 2 = σ71 29 2 := by first | exact o106 2 (by decide) | exact congrFun (f106 29 (by decide)) 2
            try have u106_2 : σ106 29 3 = σ71 29 3 := by first | exact o106 3 (by decide) | exact congrFun (f106 29 (by decide)) 3
            try have u106_3 : σ106 29 5 = σ71 29 5 := by first | exact o106 5 (by decide) | exact congrFun (f106 29 (by decide)) 5
            try have u106_4 : σ106 29 7 = σ71 29 7 := by first | exact o106 7 (by decide) | exact congrFun (f106 29 (by decide)) 7
            try have u106_5 : σ106 29 21 = σ71 29 21 := by first | exact o106 21 (by decide) | exact congrFun (f106 29 (by decide)) 21
            try have u106_6 : σ106 29 26 = σ71 29 26 := by first | exact o106 26 (by decide) | exact congrFun (f106 29 (by decide)) 26
            try have u106_7 : σ106 29 14 = σ71 29 14 := by first | exact o106 14 (by decide) | exact congrFun (f106 29 (by decide)) 14
            try have u106_8 : σ106 29 15 = σ71 29 15 := by first | exact o106 15 (by decide) | exact congrFun (f106 29 (by decide)) 15
            try have u106_9 : σ106 29 16 = σ71 29 16 := by first | exact o106 16 (by decide) | exact congrFun (f106 29 (by decide)) 16
            try have u106_10 : σ106 29 17 = σ71 29 17 := by first | exact o106 17 (by decide) | exact congrFun (f106 29 (by decide)) 17
            try have u106_11 : σ106 29 18 = σ71 29 18 := by first | exact o106 18 (by decide) | exact congrFun (f106 29 (by decide)) 18
            have xx := x106
            refine pe_rv d_M_within_109 ?_
            first | exact ⟨hB, (fun b hb => (f106 b (by simp at hb ⊢; try omega)).trans ((f71 b (by simp at hb ⊢; try omega)).trans ((f61 b (by simp at hb ⊢; try omega)).trans ((f54 b (by simp at hb ⊢; try omega)).trans ((f47 b (by simp at hb ⊢; try omega)).trans (rfl)))))), (fun j hj => (o106 j (by simp at hj ⊢; try omega)).trans ((o71 j (by simp at hj ⊢; try omega)).trans ((o61 j (by simp at hj ⊢; try omega)).trans ((o54 j (by simp at hj ⊢; try omega)).trans ((o47 j (by simp at hj ⊢; try omega)).trans (rfl)))))), xx, xk⟩ | exact ⟨hB, (fun b hb => (f106 b (by simp at hb ⊢; try omega)).trans ((f71 b (by simp at hb ⊢; try omega)).trans ((f61 b (by simp at hb ⊢; try omega)).trans ((f54 b (by simp at hb ⊢; try omega)).trans ((f47 b (by simp at hb ⊢; try omega)).trans (rfl)))))), (fun j hj => (o106 j (by simp at hj ⊢; try omega)).trans ((o71 j (by simp at hj ⊢; try omega)).trans ((o61 j (by simp at hj ⊢; try omega)).trans ((o54 j (by simp at hj ⊢; try omega)).trans ((o47 j (by simp at hj ⊢; try omega)).trans (rfl)))))), xx, ⟨by omega, by omega, by omega, by omega, by omega, by omega, by omega⟩⟩ | exact ⟨hB, (fun b hb => (f106 b (by simp at hb ⊢; try omega)).trans ((f71 b (by simp at hb ⊢; try omega)).trans ((f61 b (by simp at hb ⊢; try omega)).trans ((f54 b (by simp at hb ⊢; try omega)).trans ((f47 b (by simp at hb ⊢; try omega)).trans (rfl)))))), (fun j hj => (o106 j (by simp at hj ⊢; try omega)).trans ((o71 j (by simp at hj ⊢; try omega)).trans ((o61 j (by simp at hj ⊢; try omega)).trans ((o54 j (by simp at hj ⊢; try omega)).trans ((o47 j (by simp at hj ⊢; try omega)).trans (rfl)))))), pe_ME_g hM0 (by omega) (by omega) (by omega) ⟨by omega, by rw [show σ106 29 2 = σ 29 2 by omega]; exact hbg⟩ (by omega) ((f106 30 (by decide)).trans ((f71 30 (by decide)).trans ((f61 30 (by decide)).trans ((f54 30 (by decide)).trans ((f47 30 (by decide)).trans (rfl)))))) ((f106 31 (by decide)).trans ((f71 31 (by decide)).trans ((f61 31 (by decide)).trans ((f54 31 (by decide)).trans ((f47 31 (by decide)).trans (rfl)))))) ((f106 36 (by decide)).trans ((f71 36 (by decide)).trans ((f61 36 (by decide)).trans ((f54 36 (by decide)).trans ((f47 36 (by decide)).trans (rfl)))))) ((f106 32 (by decide)).trans ((f71 32 (by decide)).trans ((f61 32 (by decide)).trans ((f54 32 (by decide)).trans ((f47 32 (by decide)).trans (rfl)))))) ((f106 33 (by decide)).trans ((f71 33 (by decide)).trans ((f61 33 (by decide)).trans ((f54 33 (by decide)).trans ((f47 33 (by decide)).trans (rfl)))))) ((f106 34 (by decide)).trans ((f71 34 (by decide)).trans ((f61 34 (by decide)).trans ((f54 34 (by decide)).trans ((f47 34 (by decide)).trans (rfl)))))) ((f106 35 (by decide)).trans ((f71 35 (by decide)).trans ((f61 35 (by decide)).trans ((f54 35 (by decide)).trans ((f47 35 (by decide)).trans (rfl)))))), ⟨by omega, by omega, by omega, by omega, by omega, by omega, by omega⟩⟩
    · skip
      refine pe_aload_n d_M_within_16 rfl ?_
      refine pe_iconst d_M_within_17 ?_
      refine pe_putiT f_M_184 g_11_15 d_M_within_18 rfl rfl 15 rfl hB (by first | exact hB _ _ | exact hB0 _ _ | exact hBt _ _ | exact ⟨by omega, by omega⟩) (fun σ18 hB e18 o18 f18 => ?_)
      try have u18_0 : σ18 29 1 = σ 29 1 := by first | exact o18 1 (by decide) | exact congrFun (f18 29 (by decide)) 1
      try have u18_1 : σ18 29 2 = σ 29 2 := by first | exact o18 2 (by decide) | exact congrFun (f18 29 (by decide)) 2
      try have u18_2 : σ18 29 3 = σ 29 3 := by first | exact o18 3 (by decide) | exact congrFun (f18 29 (by decide)) 3
      try have u18_3 : σ18 29 5 = σ 29 5 := by first | exact o18 5 (by decide) | exact congrFun (f18 29 (by decide)) 5
      try have u18_4 : σ18 29 7 = σ 29 7 := by first | exact o18 7 (by decide) | exact congrFun (f18 29 (by decide)) 7
      try have u18_5 : σ18 29 21 = σ 29 21 := by first | exact o18 21 (by decide) | exact congrFun (f18 29 (by decide)) 21
      try have u18_6 : σ18 29 26 = σ 29 26 := by first | exact o18 26 (by decide) | exact congrFun (f18 29 (by decide)) 26
      try have u18_7 : σ18 29 14 = σ 29 14 := by first | exact o18 14 (by decide) | exact congrFun (f18 29 (by decide)) 14
      try have u18_8 : σ18 29 15 = σ 29 15 := by first | exact o18 15 (by decide) | exact congrFun (f18 29 (by decide)) 15
      try have u18_9 : σ18 29 16 = σ 29 16 := by first | exact o18 16 (by decide) | exact congrFun (f18 29 (by decide)) 16
      try have u18_10 : σ18 29 17 = σ 29 17 := by first | exact o18 17 (by decide) | exact congrFun (f18 29 (by decide)) 17
      try have u18_11 : σ18 29 18 = σ 29 18 := by first | exact o18 18 (by decide) | exact congrFun (f18 29 (by decide)) 18
      refine pe_aload_n d_M_within_21 rfl ?_
      refine pe_ldc q_M_196 d_M_within_22 (z := 65533) rfl ?_
      refine pe_v1v d_M_within_24 c_M_144 i_M_character s_M_character rfl rfl (t_M_character hB (pe_ME_g hM0 (by omega) (by omega) (by omega) ⟨by omega, by rw [show σ18 29 2 = σ 29 2 by omega]; exact hbg⟩ (by omega) ((f18 30 (by decide)).trans (rfl)) ((f18 31 (by decide)).trans (rfl)) ((f18 36 (by decide)).trans (rfl)) ((f18 32 (by decide)).trans (rfl)) ((f18 33 (by decide)).trans (rfl)) ((f18 34 (by decide)).trans (rfl)) ((f18 35 (by decide)).trans (rfl))) (by omega)) (fun σ24 hz24 => ?_)
      obtain ⟨hB, f24, o24, x24⟩ := hz24
      try have u24_0 : σ24 29 1 = σ18 29 1 := by first | exact o24 1 (by decide) | exact congrFun (f24 29 (by decide)) 1
      try have u24_1 : σ24 29 2 = σ18 29 2 := by first | exact o24 2 (by decide) | exact congrFun (f24 29 (by decide)) 2
      try have u24_2 : σ24 29 3 = σ18 29 3 := by first | exact o24 3 (by decide) | exact congrFun (f24 29 (by decide)) 3
      try have u24_3 : σ24 29 5 = σ18 29 5 := by first | exact o24 5 (by decide) | exact congrFun (f24 29 (by decide)) 5
      try have u24_4 : σ24 29 7 = σ18 29 7 := by first | exact o24 7 (by decide) | exact congrFun (f24 29 (by decide)) 7
      try have u24_5 : σ24 29 21 = σ18 29 21 := by first | exact o24 21 (by decide) | exact congrFun (f24 29 (by decide)) 21
      try have u24_6 : σ24 29 26 = σ18 29 26 := by first | exact o24 26 (by decide) | exact congrFun (f24 29 (by decide)) 26
      try have u24_7 : σ24 29 14 = σ18 29 14 := by first | exact o24 14 (by decide) | exact congrFun (f24 29 (by decide)) 14
      try have u24_8 : σ24 29 15 = σ18 29 15 := by first | exact o24 15 (by decide) | exact congrFun (f24 29 (by decide)) 15
      try have u24_9 : σ24 29 16 = σ18 29 16 := by first | exact o24 16 (by decide) | exact congrFun (f24 29 (by decide)) 16
      try have u24_10 : σ24 29 17 = σ18 29 17 := by first | exact o24 17 (by decide) | exact congrFun (f24 29 (by decide)) 17
      try have u24_11 : σ24 29 18 = σ18 29 18 := by first | exact o24 18 (by decide) | exact congrFun (f24 29 (by decide)) 18
      refine pe_aload_n d_M_within_27 rfl ?_
      refine pe_iload_n d_M_within_28 rfl ?_
      refine pe_iload_n d_M_within_29 rfl ?_
      refine pe_v2v d_M_within_30 c_M_200 i_M_plain s_M_plain rfl rfl (t_M_plain hB x24 ⟨by omega, by omega, by omega, by omega, by omega, by omega, by omega⟩ (by omega) (by first | exact hB _ _ | exact hB0 _ _ | exact hBt _ _ | exact ⟨by omega, by omega⟩)) (fun σ30 hz30 => ?_)
      obtain ⟨hB, f30, o30, x30⟩ := hz30
      try have u30_0 : σ30 29 1 = σ24 29 1 := by first | exact o30 1 (by decide) | exact congrFun (f30 29 (by decide)) 1
      try have u30_1 : σ30 29 2 = σ24 29 2 := by first | exact o30 2 (by decide) | exact congrFun (f30 29 (by decide)) 2
      try have u30_2 : σ30 29 3 = σ24 29 3 := by first | exact o30 3 (by decide) | exact congrFun (f30 29 (by decide)) 3
      try have u30_3 : σ30 29 5 = σ24 29 5 := by first | exact o30 5 (by decide) | exact congrFun (f30 29 (by decide)) 5
      try have u30_4 : σ30 29 7 = σ24 29 7 := by first | exact o30 7 (by decide) | exact congrFun (f30 29 (by decide)) 7
      try have u30_5 : σ30 29 21 = σ24 29 21 := by first | exact o30 21 (by decide) | exact congrFun (f30 29 (by decide)) 21
      try have u30_6 : σ30 29 26 = σ24 29 26 := by first | exact o30 26 (by decide) | exact congrFun (f30 29 (by decide)) 26
      try have u30_7 : σ30 29 14 = σ24 29 14 := by first | exact o30 14 (by decide) | exact congrFun (f30 29 (by decide)) 14
      try have u30_8 : σ30 29 15 = σ24 29 15 := by first | exact o30 15 (by decide) | exact congrFun (f30 29 (by decide)) 15
      try have u30_9 : σ30 29 16 = σ24 29 16 := by first | exact o30 16 (by decide) | exact congrFun (f30 29 (by decide)) 16
      try have u30_10 : σ30 29 17 = σ24 29 17 := by first | exact o30 17 (by decide) | exact congrFun (f30 29 (by decide)) 17
      try have u30_11 : σ30 29 18 = σ24 29 18 := by first | exact o30 18 (by decide) | exact congrFun (f30 29 (by decide)) 18
      have xx := x30.1
      have xk := x30.2
      refine pe_rv d_M_within_33 ?_
      first | exact ⟨hB, (fun b hb => (f30 b (by simp at hb ⊢; try omega)).trans ((f24 b (by simp at hb ⊢; try omega)).trans ((f18 b (by simp at hb ⊢; try omega)).trans (rfl)))), (fun j hj => (o30 j (by simp at hj ⊢; try omega)).trans ((o24 j (by simp at hj ⊢; try omega)).trans ((o18 j (by simp at hj ⊢; try omega)).trans (rfl)))), xx, xk⟩ | exact ⟨hB, (fun b hb => (f30 b (by simp at hb ⊢; try omega)).trans ((f24 b (by simp at hb ⊢; try omega)).trans ((f18 b (by simp at hb ⊢; try omega)).trans (rfl)))), (fun j hj => (o30 j (by simp at hj ⊢; try omega)).trans ((o24 j (by simp at hj ⊢; try omega)).trans ((o18 j (by simp at hj ⊢; try omega)).trans (rfl)))), xx, ⟨by omega, by omega, by omega, by omega, by omega, by omega, by omega⟩⟩ | exact ⟨hB, (fun b hb => (f30 b (by simp at hb ⊢; try omega)).trans ((f24 b (by simp at hb ⊢; try omega)).trans ((f18 b (by simp at hb ⊢; try omega)).trans (rfl)))), (fun j hj => (o30 j (by simp at hj ⊢; try omega)).trans ((o24 j (by simp at hj ⊢; try omega)).trans ((o18 j (by simp at hj ⊢; try omega)).trans (rfl)))), pe_ME_g hM0 (by omega) (by omega) (by omega) ⟨by omega, by rw [show σ30 29 2 = σ 29 2 by omega]; exact hbg⟩ (by omega) ((f30 30 (by decide)).trans ((f24 30 (by decide)).trans ((f18 30 (by decide)).trans (rfl)))) ((f30 31 (by decide)).trans ((f24 31 (by decide)).trans ((f18 31 (by decide)).trans (rfl)))) ((f30 36 (by decide)).trans ((f24 36 (by decide)).trans ((f18 36 (by decide)).trans (rfl)))) ((f30 32 (by decide)).trans ((f24 32 (by decide)).trans ((f18 32 (by decide)).trans (rfl)))) ((f30 33 (by decide)).trans ((f24 33 (by decide)).trans ((f18 33 (by decide)).trans (rfl)))) ((f30 34 (by decide)).trans ((f24 34 (by decide)).trans ((f18 34 (by decide)).trans (rfl)))) ((f30 35 (by decide)).trans ((f24 35 (by decide)).trans ((f18 35 (by decide)).trans (rfl)))), ⟨by omega, by omega, by omega, by omega, by omega, by omega, by omega⟩⟩
